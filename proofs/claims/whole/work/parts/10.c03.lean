set_option maxHeartbeats 4000000 in
set_option maxRecDepth 100000 in
theorem m_X3_fillEndRow (l : Launch) (dC : Nat → ClassId) (dI : Nat → Nat → Nat) (cI cZ : ClassId) (a : Nat → Nat) (sz : Nat) (σ : St) (x1 : Int32) (x2 : Int32) (hiv : IV σ) : Met l yX3_fillEndRow wsX3_fillEndRow ({ frames := 3, cells := 0, slots := 0, locals := 71 }) (pMu dC dI cI cZ a sz σ [.ref (a 0), .int x1, .int x2]) (va_Qv (fun σ9 => σ9 = sp_fillEndRow σ x1 x2) (bMu dC dI cI cZ a (va_A (cw cI cZ a σ) sz)) (va_A (cw cI cZ a σ) sz)) 0 0 (va_A (cw cI cZ a σ) sz) := by
  refine Met.ofW (cc := cX3_fillEndRow) (maxL := 5) (ret := none) (by decide) rfl ?_
  intro p e s m args below meth c s₁ B hml hv
  obtain ⟨rfl, hsz, hP, hK, hD0⟩ := hv
  have hx := B.exec
  have hb := B.bytes
  have hr := B.returns
  have hts := atoms_spec (ws := wsX3_fillEndRow) B.pre
  have hown : s.vm.findClass RX3 = some m.cls := findClass_of_methodNamed B.named
  have hlocks := B.notSynchronized
  subst hsz
  have hD := hD0.self (sz := s.heap.size)
  generalize hAe : va_A (cw cI cZ a σ) s.heap.size = A at hD ⊢
  have hA : ∀ q : Nat, s.heap.size ≤ q → A q := fun q h => by rw [← hAe]; exact Or.inr h
  clear hAe hD0
  obtain ⟨H, hHe⟩ : ∃ z, z = s.heap := ⟨_, rfl⟩
  obtain ⟨locs, hLe⟩ : ∃ z : List Loc, z = [] := ⟨_, rfl⟩
  have hS : va_S A s.heap H locs := by rw [hHe, hLe]; exact va_S.rf
  have hP : va_P (dC, dI) vwCl (cw cI cZ a σ) H := by rw [hHe]; exact hP
  refine W_ofH hHe hLe ?_
  clear hHe hLe
  have hl := lv_entry ([.ref (a 0), .int x1, .int x2]) (n := 5) (Nat.le_of_ble_eq_true rfl)
  rw [lg_entry_eq]
  generalize (lg_sl ([.ref (a 0), .int x1, .int x2]) ++ List.replicate (5 - (lg_sl ([.ref (a 0), .int x1, .int x2])).length) Slot.unset).toArray = ls at hl ⊢
  have hl : lv_has ls 5 [(0, .ref (a 0)), (1, .int x1), (2, .int x2)] := hl
  obtain ⟨R, hR⟩ : ∃ z, z = sp_fillEndRow σ x1 x2 := ⟨_, rfl⟩
  have hw := hR
  unfold sp_fillEndRow at hw
  have hle := iv_le hiv
  refine lv_iconst (v := 0) hx hb dX3_fillEndRow_0 (by decide) ?_
  refine lv_istore_n (lv' := [(3, .int (0 : Int32)), (0, .ref (a 0)), (1, .int x1), (2, .int x2)]) hx hb dX3_fillEndRow_1 rfl hl (by decide) rfl (fun ls hl => ?_)
  have loop : ∀ (n k : Nat) (σ1 : St) (H : Heap) (locs : List Loc) (ls : Array Slot), k + n = cntN σ → IV σ1 → cntN σ1 = cntN σ → va_P (dC, dI) vwCl (cw cI cZ a σ1) H → va_D A (cw cI cZ a σ1) → va_S A s.heap H locs → lv_has ls 5 [(0, .ref (a 0)), (1, .int x1), (2, .int x2), (3, .int (nI k))] → R = sp_fillEndRow_2 σ x1 x2 σ1 n k → W p l e (headSpec wsX3_fillEndRow ({ frames := 3, cells := 0, slots := 0, locals := 71 })).room s m [.ref (a 0), .int x1, .int x2].toArray below meth c H locs 0 0 (MQ below (va_Qv (fun σ9 => σ9 = sp_fillEndRow σ x1 x2) (bMu dC dI cI cZ a A) A) [.ref (a 0), .int x1, .int x2].toArray s 0 0 A) (F0 m 2 ls []) := by
    intro n
    induction n with
    | zero =>
      intro k σ1 H locs ls hkn hiv1 hc1 hP hD hS hl hw
      rw [sp_fillEndRow_2_0] at hw
      refine lv_iload_n hx hb dX3_fillEndRow_2 rfl (lv_at hl 3 rfl) ?_
      refine lv_aload_n hx hb dX3_fillEndRow_3 rfl (lv_at hl 0 rfl) ?_
      refine va_get (D := (dC, dI)) (ci := 3) (v := .ref (a 7)) (C := RX3) (T := TX3) (N := 6) hx hb hts (iwX3 _) hown hK hP 0 rfl rfl 1 (by decide) (hts _ (kc k_155)) (fun _ h9 => h9) rfl dX3_fillEndRow_4 ?_
      refine va_get (D := (dC, dI)) (ci := 2) (v := .int (σ1 7 11)) (C := RX2) (T := TX2) (N := 12) hx hb hts (iwX2 _) hown hK hP 7 rfl rfl 11 (by decide) (hts _ (kc k_97)) (fun _ h9 => h9) rfl dX3_fillEndRow_7 ?_
      refine lv_icmp_ge (tgt := 61) hx hb dX3_fillEndRow_10 (by decide) (fun c_10_1 => ?_) (fun c_10_1 => ?_)
      · skip
        exact W.vret hx hb hr (fun t ht hW => ⟨⟨σ1, rfl, hw.symm.trans hR, by rw [ht]; exact hP, va_K.moved hW.alike hK, hD⟩, hS.F ht⟩) hS.2.2 dX3_fillEndRow_61
      · skip
        exact absurd (lpE (iv_cnt2 hiv1 hc1) hkn (by omega)) c_10_1
    | succ n ih =>
      intro k σ1 H locs ls hkn hiv1 hc1 hP hD hS hl hw
      rw [sp_fillEndRow_2_s] at hw
      have hkf : vp_in (nI k) 40 := vp_in_nI (by omega) (by decide)
      refine lv_iload_n hx hb dX3_fillEndRow_2 rfl (lv_at hl 3 rfl) ?_
      refine lv_aload_n hx hb dX3_fillEndRow_3 rfl (lv_at hl 0 rfl) ?_
      refine va_get (D := (dC, dI)) (ci := 3) (v := .ref (a 7)) (C := RX3) (T := TX3) (N := 6) hx hb hts (iwX3 _) hown hK hP 0 rfl rfl 1 (by decide) (hts _ (kc k_155)) (fun _ h9 => h9) rfl dX3_fillEndRow_4 ?_
      refine va_get (D := (dC, dI)) (ci := 2) (v := .int (σ1 7 11)) (C := RX2) (T := TX2) (N := 12) hx hb hts (iwX2 _) hown hK hP 7 rfl rfl 11 (by decide) (hts _ (kc k_97)) (fun _ h9 => h9) rfl dX3_fillEndRow_7 ?_
      refine lv_icmp_ge (tgt := 61) hx hb dX3_fillEndRow_10 (by decide) (fun c_10_2 => ?_) (fun c_10_2 => ?_)
      · skip
        exact absurd c_10_2 (lpB (iv_cnt2 hiv1 hc1) hkn (by omega))
      · skip
        refine lv_aload_n hx hb dX3_fillEndRow_13 rfl (lv_at hl 0 rfl) ?_
        refine va_get (D := (dC, dI)) (ci := 3) (v := .ref (a 7)) (C := RX3) (T := TX3) (N := 6) hx hb hts (iwX3 _) hown hK hP 0 rfl rfl 1 (by decide) (hts _ (kc k_155)) (fun _ h9 => h9) rfl dX3_fillEndRow_14 ?_
        refine va_get (D := (dC, dI)) (ci := 2) (v := .ref (a 11)) (C := RX2) (T := TX2) (N := 12) hx hb hts (iwX2 _) hown hK hP 7 rfl rfl 3 (by decide) (hts _ (kc k_82)) (fun _ h9 => h9) rfl dX3_fillEndRow_17 ?_
        refine lv_iload_n hx hb dX3_fillEndRow_20 rfl (lv_at hl 3 rfl) ?_
        refine va_iald (D := (dC, dI)) (f := σ1 11) hx hb hK hP 11 0 rfl rfl (i := nI k) hkf dX3_fillEndRow_21 ?_
        refine lv_iload_n hx hb dX3_fillEndRow_22 rfl (lv_at hl 1 rfl) ?_
        refine lv_icmp_ne (tgt := 34) hx hb dX3_fillEndRow_23 (by decide) (fun c_23_3 => ?_) (fun c_23_3 => ?_)
        · skip
          rw [if_neg c_23_3] at hw
          refine lv_iconst (v := -1) hx hb dX3_fillEndRow_34 (by decide) ?_
          refine lv_istore (lv' := [(4, .int (-1 : Int32)), (0, .ref (a 0)), (1, .int x1), (2, .int x2), (3, .int (nI k))]) hx hb dX3_fillEndRow_35 hl (by decide) rfl (fun ls hl => ?_)
          refine lv_aload_n hx hb dX3_fillEndRow_37 rfl (lv_at hl 1 rfl) ?_
          refine va_get (D := (dC, dI)) (ci := 3) (v := .ref (a 26)) (C := RX3) (T := TX3) (N := 6) hx hb hts (iwX3 _) hown hK hP 0 rfl rfl 4 (by decide) (hts _ (kc k_158)) (fun _ h9 => h9) rfl dX3_fillEndRow_38 ?_
          refine lv_iload_n hx hb dX3_fillEndRow_41 rfl (lv_at hl 4 rfl) ?_
          refine lv_iload hx hb dX3_fillEndRow_42 (lv_at hl 0 rfl) ?_
          refine lv_iload_n hx hb dX3_fillEndRow_44 rfl (lv_at hl 3 rfl) ?_
          refine lv_icmp_gt (tgt := 53) hx hb dX3_fillEndRow_45 (by decide) (fun c_45_4 => ?_) (fun c_45_4 => ?_)
          · skip
            rw [if_pos c_45_4] at hw
            refine lv_iconst (v := -1) hx hb dX3_fillEndRow_53 (by decide) ?_
            refine va_iast (D := (dC, dI)) (f := σ1 26) hx hb hK hP hD hS 26 0 rfl rfl (i := nI k) (x := (-1 : Int32)) hkf dX3_fillEndRow_54 (fun H locs hP hD hS => ?_)
            obtain ⟨σ_5, eσ_5⟩ : ∃ z : St, z = su σ1 26 ((nI k).toNatClampNeg) (-1 : Int32) := ⟨_, rfl⟩
            replace hP := P_cw_26 hP
            replace hD := D_cw_26 hD
            rw [← eσ_5] at hP hD
            replace hw : R = (sp_fillEndRow_2 σ x1 x2 σ_5 n (k + 1)) := by subst eσ_5; exact hw
            have hiv_6 : IV σ_5 := by rw [eσ_5]; exact (iv_suq hiv1 (by decide))
            refine lv_iinc (v := (nI (k + 1))) (lv' := [(3, .int (nI (k + 1))), (4, .int (-1 : Int32)), (0, .ref (a 0)), (1, .int x1), (2, .int x2)]) hx hb dX3_fillEndRow_55 hl (k := 4) rfl (nI_1 k) (by decide) rfl (fun ls hl => ?_)
            refine lv_goto (tgt := 2) hx hb dX3_fillEndRow_58 (by decide) ?_
            exact ih (k + 1) σ_5 H locs ls (by omega) hiv_6 (by rw [eσ_5]; exact hc1) hP hD hS (lv_sub hl [2, 3, 4, 0] rfl) hw
          · skip
            rw [if_neg c_45_4] at hw
            refine lv_iload hx hb dX3_fillEndRow_48 (lv_at hl 0 rfl) ?_
            refine lv_goto (tgt := 54) hx hb dX3_fillEndRow_50 (by decide) ?_
            refine va_iast (D := (dC, dI)) (f := σ1 26) hx hb hK hP hD hS 26 0 rfl rfl (i := nI k) (x := (-1 : Int32)) hkf dX3_fillEndRow_54 (fun H locs hP hD hS => ?_)
            obtain ⟨σ_7, eσ_7⟩ : ∃ z : St, z = su σ1 26 ((nI k).toNatClampNeg) (-1 : Int32) := ⟨_, rfl⟩
            replace hP := P_cw_26 hP
            replace hD := D_cw_26 hD
            rw [← eσ_7] at hP hD
            replace hw : R = (sp_fillEndRow_2 σ x1 x2 σ_7 n (k + 1)) := by subst eσ_7; exact hw
            have hiv_8 : IV σ_7 := by rw [eσ_7]; exact (iv_suq hiv1 (by decide))
            refine lv_iinc (v := (nI (k + 1))) (lv' := [(3, .int (nI (k + 1))), (4, .int (-1 : Int32)), (0, .ref (a 0)), (1, .int x1), (2, .int x2)]) hx hb dX3_fillEndRow_55 hl (k := 4) rfl (nI_1 k) (by decide) rfl (fun ls hl => ?_)
            refine lv_goto (tgt := 2) hx hb dX3_fillEndRow_58 (by decide) ?_
            exact ih (k + 1) σ_7 H locs ls (by omega) hiv_8 (by rw [eσ_7]; exact hc1) hP hD hS (lv_sub hl [2, 3, 4, 0] rfl) hw
        · skip
          rw [if_pos c_23_3] at hw
          refine lv_aload_n hx hb dX3_fillEndRow_26 rfl (lv_at hl 0 rfl) ?_
          refine lv_iload_n hx hb dX3_fillEndRow_27 rfl (lv_at hl 3 rfl) ?_
          refine vp_callSi (W.runV (As := [.int (nI k)]) (rest := []) ⟨hx, hb, hml, hown, hts⟩ (m_X3_endOf l dC dI cI cZ a σ1 (nI k) hiv1 hkf) (cwV 1 hts (gV k_473 k_475 k_6 k_20 k_476) rfl rfl rfl (by decide +kernel) ⟨Nat.le_of_ble_eq_true rfl, Nat.le_of_ble_eq_true rfl⟩) (pv_ro (q := (RX3, TX3, 6)) (q0 := 0) (ci := 3) hK hP rfl rfl) rfl rfl hl.1 rfl (lv_room (Nat.le_of_ble_eq_true rfl)) dX3_fillEndRow_28 ⟨Nat.le_of_ble_eq_true rfl, Nat.le_of_ble_eq_true rfl⟩) (fun r hrr => ?_)
          subst hrr
          refine lv_goto (tgt := 35) hx hb dX3_fillEndRow_31 (by decide) ?_
          refine lv_istore (lv' := [(4, .int (sp_endOf σ1 (nI k))), (0, .ref (a 0)), (1, .int x1), (2, .int x2), (3, .int (nI k))]) hx hb dX3_fillEndRow_35 hl (by decide) rfl (fun ls hl => ?_)
          refine lv_aload_n hx hb dX3_fillEndRow_37 rfl (lv_at hl 1 rfl) ?_
          refine va_get (D := (dC, dI)) (ci := 3) (v := .ref (a 26)) (C := RX3) (T := TX3) (N := 6) hx hb hts (iwX3 _) hown hK hP 0 rfl rfl 4 (by decide) (hts _ (kc k_158)) (fun _ h9 => h9) rfl dX3_fillEndRow_38 ?_
          refine lv_iload_n hx hb dX3_fillEndRow_41 rfl (lv_at hl 4 rfl) ?_
          refine lv_iload hx hb dX3_fillEndRow_42 (lv_at hl 0 rfl) ?_
          refine lv_iload_n hx hb dX3_fillEndRow_44 rfl (lv_at hl 3 rfl) ?_
          refine lv_icmp_gt (tgt := 53) hx hb dX3_fillEndRow_45 (by decide) (fun c_45_9 => ?_) (fun c_45_9 => ?_)
          · skip
            rw [if_pos c_45_9] at hw
            refine lv_iconst (v := -1) hx hb dX3_fillEndRow_53 (by decide) ?_
            refine va_iast (D := (dC, dI)) (f := σ1 26) hx hb hK hP hD hS 26 0 rfl rfl (i := nI k) (x := (-1 : Int32)) hkf dX3_fillEndRow_54 (fun H locs hP hD hS => ?_)
            obtain ⟨σ_10, eσ_10⟩ : ∃ z : St, z = su σ1 26 ((nI k).toNatClampNeg) (-1 : Int32) := ⟨_, rfl⟩
            replace hP := P_cw_26 hP
            replace hD := D_cw_26 hD
            rw [← eσ_10] at hP hD
            replace hw : R = (sp_fillEndRow_2 σ x1 x2 σ_10 n (k + 1)) := by subst eσ_10; exact hw
            have hiv_11 : IV σ_10 := by rw [eσ_10]; exact (iv_suq hiv1 (by decide))
            refine lv_iinc (v := (nI (k + 1))) (lv' := [(3, .int (nI (k + 1))), (4, .int (sp_endOf σ1 (nI k))), (0, .ref (a 0)), (1, .int x1), (2, .int x2)]) hx hb dX3_fillEndRow_55 hl (k := 4) rfl (nI_1 k) (by decide) rfl (fun ls hl => ?_)
            refine lv_goto (tgt := 2) hx hb dX3_fillEndRow_58 (by decide) ?_
            exact ih (k + 1) σ_10 H locs ls (by omega) hiv_11 (by rw [eσ_10]; exact hc1) hP hD hS (lv_sub hl [2, 3, 4, 0] rfl) hw
          · skip
            rw [if_neg c_45_9] at hw
            refine lv_iload hx hb dX3_fillEndRow_48 (lv_at hl 0 rfl) ?_
            refine lv_goto (tgt := 54) hx hb dX3_fillEndRow_50 (by decide) ?_
            refine va_iast (D := (dC, dI)) (f := σ1 26) hx hb hK hP hD hS 26 0 rfl rfl (i := nI k) (x := sp_endOf σ1 (nI k)) hkf dX3_fillEndRow_54 (fun H locs hP hD hS => ?_)
            obtain ⟨σ_12, eσ_12⟩ : ∃ z : St, z = su σ1 26 ((nI k).toNatClampNeg) (sp_endOf σ1 (nI k)) := ⟨_, rfl⟩
            replace hP := P_cw_26 hP
            replace hD := D_cw_26 hD
            rw [← eσ_12] at hP hD
            replace hw : R = (sp_fillEndRow_2 σ x1 x2 σ_12 n (k + 1)) := by subst eσ_12; exact hw
            have hiv_13 : IV σ_12 := by rw [eσ_12]; exact (iv_suq hiv1 (by decide))
            refine lv_iinc (v := (nI (k + 1))) (lv' := [(3, .int (nI (k + 1))), (4, .int (sp_endOf σ1 (nI k))), (0, .ref (a 0)), (1, .int x1), (2, .int x2)]) hx hb dX3_fillEndRow_55 hl (k := 4) rfl (nI_1 k) (by decide) rfl (fun ls hl => ?_)
            refine lv_goto (tgt := 2) hx hb dX3_fillEndRow_58 (by decide) ?_
            exact ih (k + 1) σ_12 H locs ls (by omega) hiv_13 (by rw [eσ_12]; exact hc1) hP hD hS (lv_sub hl [2, 3, 4, 0] rfl) hw
  exact loop (cntN σ) 0 σ H locs ls (Nat.zero_add _) hiv rfl hP hD hS (lv_sub hl [1, 2, 3, 0] rfl) hw
set_option maxHeartbeats 4000000 in
set_option maxRecDepth 100000 in
theorem m_X1_keepTried (l : Launch) (dC : Nat → ClassId) (dI : Nat → Nat → Nat) (cI cZ : ClassId) (a : Nat → Nat) (sz : Nat) (σ : St) (x1 : Int32) (hp : σ 19 5 = nI (plnN σ)) (hp6 : plnN σ ≤ 6) : Met l yX1_keepTried wsX1_keepTried ({ frames := 0, cells := 0, slots := 0, locals := 0 }) (pMu dC dI cI cZ a sz σ [.ref (a 19), .int x1]) (va_Qv (fun σ9 => σ9 = sp_keepTried σ x1) (bMu dC dI cI cZ a (va_A (cw cI cZ a σ) sz)) (va_A (cw cI cZ a σ) sz)) 0 0 (va_A (cw cI cZ a σ) sz) := by
  refine Met.ofW (cc := cX1_keepTried) (maxL := 3) (ret := none) (by decide) rfl ?_
  intro p e s m args below meth c s₁ B hml hv
  obtain ⟨rfl, hsz, hP, hK, hD0⟩ := hv
  have hx := B.exec
  have hb := B.bytes
  have hr := B.returns
  have hts := atoms_spec (ws := wsX1_keepTried) B.pre
  have hown : s.vm.findClass RX1 = some m.cls := findClass_of_methodNamed B.named
  have hlocks := B.notSynchronized
  subst hsz
  have hD := hD0.self (sz := s.heap.size)
  generalize hAe : va_A (cw cI cZ a σ) s.heap.size = A at hD ⊢
  have hA : ∀ q : Nat, s.heap.size ≤ q → A q := fun q h => by rw [← hAe]; exact Or.inr h
  clear hAe hD0
  obtain ⟨H, hHe⟩ : ∃ z, z = s.heap := ⟨_, rfl⟩
  obtain ⟨locs, hLe⟩ : ∃ z : List Loc, z = [] := ⟨_, rfl⟩
  have hS : va_S A s.heap H locs := by rw [hHe, hLe]; exact va_S.rf
  have hP : va_P (dC, dI) vwCl (cw cI cZ a σ) H := by rw [hHe]; exact hP
  refine W_ofH hHe hLe ?_
  clear hHe hLe
  have hl := lv_entry ([.ref (a 19), .int x1]) (n := 3) (Nat.le_of_ble_eq_true rfl)
  rw [lg_entry_eq]
  generalize (lg_sl ([.ref (a 19), .int x1]) ++ List.replicate (3 - (lg_sl ([.ref (a 19), .int x1])).length) Slot.unset).toArray = ls at hl ⊢
  have hl : lv_has ls 3 [(0, .ref (a 19)), (1, .int x1)] := hl
  obtain ⟨R, hR⟩ : ∃ z, z = sp_keepTried σ x1 := ⟨_, rfl⟩
  have hw := hR
  unfold sp_keepTried at hw
  refine lv_aload_n hx hb dX1_keepTried_0 rfl (lv_at hl 0 rfl) ?_
  refine lv_iload_n hx hb dX1_keepTried_1 rfl (lv_at hl 1 rfl) ?_
  refine va_put (D := (dC, dI)) (ci := 1) (v := .int x1) (ty := .int) (C := RX1) (T := TX1) (N := 7) hx hb hts (iwX1 _) tyX1 tyX1_ok nmX1 hown hK hP hD hS 19 rfl rfl 6 (by decide) (hts _ (kc k_138)) (fun _ h9 => h9) rfl (by decide +kernel) rfl rfl (Nat.le_of_ble_eq_true rfl) dX1_keepTried_2 (fun H locs hP hD hS => ?_)
  obtain ⟨σ_1, eσ_1⟩ : ∃ z : St, z = su σ 19 6 x1 := ⟨_, rfl⟩
  replace hP := P_cw_19_6 hP
  replace hD := D_cw_19_6 hD
  rw [← eσ_1] at hP hD
  replace hw : R = (sp_keepTried_7 σ x1 σ_1 (plnN σ) 0) := by subst eσ_1; exact hw
  refine lv_iconst (v := 0) hx hb dX1_keepTried_5 (by decide) ?_
  refine lv_istore_n (lv' := [(2, .int (0 : Int32)), (0, .ref (a 19)), (1, .int x1)]) hx hb dX1_keepTried_6 rfl hl (by decide) rfl (fun ls hl => ?_)
  have loop : ∀ (n k : Nat) (σ1 : St) (H : Heap) (locs : List Loc) (ls : Array Slot), k + n = plnN σ → σ1 19 5 = nI (plnN σ) → va_P (dC, dI) vwCl (cw cI cZ a σ1) H → va_D A (cw cI cZ a σ1) → va_S A s.heap H locs → lv_has ls 3 [(0, .ref (a 19)), (1, .int x1), (2, .int (nI k))] → R = sp_keepTried_7 σ x1 σ1 n k → W p l e (headSpec wsX1_keepTried ({ frames := 0, cells := 0, slots := 0, locals := 0 })).room s m [.ref (a 19), .int x1].toArray below meth c H locs 0 0 (MQ below (va_Qv (fun σ9 => σ9 = sp_keepTried σ x1) (bMu dC dI cI cZ a A) A) [.ref (a 19), .int x1].toArray s 0 0 A) (F0 m 7 ls []) := by
    intro n
    induction n with
    | zero =>
      intro k σ1 H locs ls hkn hp1 hP hD hS hl hw
      rw [sp_keepTried_7_0] at hw
      refine lv_iload_n hx hb dX1_keepTried_7 rfl (lv_at hl 2 rfl) ?_
      refine lv_aload_n hx hb dX1_keepTried_8 rfl (lv_at hl 0 rfl) ?_
      refine va_get (D := (dC, dI)) (ci := 1) (v := .int (σ1 19 5)) (C := RX1) (T := TX1) (N := 7) hx hb hts (iwX1 _) hown hK hP 19 rfl rfl 5 (by decide) (hts _ (kc k_136)) (fun _ h9 => h9) rfl dX1_keepTried_9 ?_
      refine lv_icmp_ge (tgt := 33) hx hb dX1_keepTried_12 (by decide) (fun c_12_2 => ?_) (fun c_12_2 => ?_)
      · skip
        exact W.vret hx hb hr (fun t ht hW => ⟨⟨σ1, rfl, hw.symm.trans hR, by rw [ht]; exact hP, va_K.moved hW.alike hK, hD⟩, hS.F ht⟩) hS.2.2 dX1_keepTried_33
      · skip
        exact absurd (lpE hp1 hkn (by omega)) c_12_2
    | succ n ih =>
      intro k σ1 H locs ls hkn hp1 hP hD hS hl hw
      rw [sp_keepTried_7_s] at hw
      have hkf : vp_in (nI k) 6 := vp_in_nI (by omega) (by decide)
      refine lv_iload_n hx hb dX1_keepTried_7 rfl (lv_at hl 2 rfl) ?_
      refine lv_aload_n hx hb dX1_keepTried_8 rfl (lv_at hl 0 rfl) ?_
      refine va_get (D := (dC, dI)) (ci := 1) (v := .int (σ1 19 5)) (C := RX1) (T := TX1) (N := 7) hx hb hts (iwX1 _) hown hK hP 19 rfl rfl 5 (by decide) (hts _ (kc k_136)) (fun _ h9 => h9) rfl dX1_keepTried_9 ?_
      refine lv_icmp_ge (tgt := 33) hx hb dX1_keepTried_12 (by decide) (fun c_12_3 => ?_) (fun c_12_3 => ?_)
      · skip
        exact absurd c_12_3 (lpB hp1 hkn (by omega))
      · skip
        refine lv_aload_n hx hb dX1_keepTried_15 rfl (lv_at hl 0 rfl) ?_
        refine va_get (D := (dC, dI)) (ci := 1) (v := .ref (a 23)) (C := RX1) (T := TX1) (N := 7) hx hb hts (iwX1 _) hown hK hP 19 rfl rfl 3 (by decide) (hts _ (kc k_133)) (fun _ h9 => h9) rfl dX1_keepTried_16 ?_
        refine lv_iload_n hx hb dX1_keepTried_19 rfl (lv_at hl 2 rfl) ?_
        refine lv_aload_n hx hb dX1_keepTried_20 rfl (lv_at hl 0 rfl) ?_
        refine va_get (D := (dC, dI)) (ci := 1) (v := .ref (a 22)) (C := RX1) (T := TX1) (N := 7) hx hb hts (iwX1 _) hown hK hP 19 rfl rfl 2 (by decide) (hts _ (kc k_132)) (fun _ h9 => h9) rfl dX1_keepTried_21 ?_
        refine lv_iload_n hx hb dX1_keepTried_24 rfl (lv_at hl 2 rfl) ?_
        refine va_iald (D := (dC, dI)) (f := σ1 22) hx hb hK hP 22 0 rfl rfl (i := nI k) hkf dX1_keepTried_25 ?_
        refine va_iast (D := (dC, dI)) (f := σ1 23) hx hb hK hP hD hS 23 0 rfl rfl (i := nI k) (x := σ1 22 (nI k).toNatClampNeg) hkf dX1_keepTried_26 (fun H locs hP hD hS => ?_)
        obtain ⟨σ_4, eσ_4⟩ : ∃ z : St, z = su σ1 23 ((nI k).toNatClampNeg) (σ1 22 (nI k).toNatClampNeg) := ⟨_, rfl⟩
        replace hP := P_cw_23 hP
        replace hD := D_cw_23 hD
        rw [← eσ_4] at hP hD
        replace hw : R = (sp_keepTried_7 σ x1 σ_4 n (k + 1)) := by subst eσ_4; exact hw
        refine lv_iinc (v := (nI (k + 1))) (lv' := [(2, .int (nI (k + 1))), (0, .ref (a 19)), (1, .int x1)]) hx hb dX1_keepTried_27 hl (k := 2) rfl (nI_1 k) (by decide) rfl (fun ls hl => ?_)
        refine lv_goto (tgt := 7) hx hb dX1_keepTried_30 (by decide) ?_
        exact ih (k + 1) σ_4 H locs ls (by omega) (by rw [eσ_4]; exact hp1) hP hD hS (lv_sub hl [1, 2, 0] rfl) hw
  exact loop (plnN σ) 0 σ_1 H locs ls (Nat.zero_add _) (by rw [eσ_1]; exact hp) hP hD hS (lv_sub hl [1, 2, 0] rfl) hw
set_option maxHeartbeats 4000000 in
set_option maxRecDepth 100000 in
theorem m_X1_putFrom (l : Launch) (dC : Nat → ClassId) (dI : Nat → Nat → Nat) (cI cZ : ClassId) (a : Nat → Nat) : ∀ (D sz : Nat) (σ : St) (x1 x2 : Int32) (hiv : IV σ) (t : Nat) (ht : x1 = nI t) (htp : t ≤ plnN σ) (htd : plnN σ ≤ t + D), Met l yX1_putFrom wsX1_putFrom ({ frames := 2 + D, cells := 0, slots := 0, locals := 60 + 23 * D }) (pMu dC dI cI cZ a sz σ [.ref (a 19), .int x1, .int x2]) (va_Qv (fun σ9 => σ9 = sp_putFrom D σ x1 x2) (bMu dC dI cI cZ a (va_A (cw cI cZ a σ) sz)) (va_A (cw cI cZ a σ) sz)) 0 0 (va_A (cw cI cZ a σ) sz) := by
  intro D
  induction D with
  | zero =>
    intro sz σ x1 x2 hiv t ht htp htd
    refine Met.ofW (cc := cX1_putFrom) (maxL := 4) (ret := none) (by decide) rfl ?_
    intro p e s m args below meth c s₁ B hml hv
    obtain ⟨rfl, hsz, hP, hK, hD0⟩ := hv
    have hx := B.exec
    have hb := B.bytes
    have hr := B.returns
    have hts := atoms_spec (ws := wsX1_putFrom) B.pre
    have hown : s.vm.findClass RX1 = some m.cls := findClass_of_methodNamed B.named
    have hlocks := B.notSynchronized
    subst hsz
    have hD := hD0.self (sz := s.heap.size)
    generalize hAe : va_A (cw cI cZ a σ) s.heap.size = A at hD ⊢
    have hA : ∀ q : Nat, s.heap.size ≤ q → A q := fun q h => by rw [← hAe]; exact Or.inr h
    clear hAe hD0
    obtain ⟨H, hHe⟩ : ∃ z, z = s.heap := ⟨_, rfl⟩
    obtain ⟨locs, hLe⟩ : ∃ z : List Loc, z = [] := ⟨_, rfl⟩
    have hS : va_S A s.heap H locs := by rw [hHe, hLe]; exact va_S.rf
    have hP : va_P (dC, dI) vwCl (cw cI cZ a σ) H := by rw [hHe]; exact hP
    refine W_ofH hHe hLe ?_
    clear hHe hLe
    have hl := lv_entry ([.ref (a 19), .int x1, .int x2]) (n := 4) (Nat.le_of_ble_eq_true rfl)
    rw [lg_entry_eq]
    generalize (lg_sl ([.ref (a 19), .int x1, .int x2]) ++ List.replicate (4 - (lg_sl ([.ref (a 19), .int x1, .int x2])).length) Slot.unset).toArray = ls at hl ⊢
    have hl : lv_has ls 4 [(0, .ref (a 19)), (1, .int x1), (2, .int x2)] := hl
    obtain ⟨R, hR⟩ : ∃ z, z = sp_putFrom 0 σ x1 x2 := ⟨_, rfl⟩
    have hw := hR
    rw [sp_putFrom_0] at hw
    refine lv_iload_n hx hb dX1_putFrom_0 rfl (lv_at hl 2 rfl) ?_
    refine lv_aload_n hx hb dX1_putFrom_1 rfl (lv_at hl 0 rfl) ?_
    refine va_get (D := (dC, dI)) (ci := 1) (v := .int (σ 19 6)) (C := RX1) (T := TX1) (N := 7) hx hb hts (iwX1 _) hown hK hP 19 rfl rfl 6 (by decide) (hts _ (kc k_138)) (fun _ h9 => h9) rfl dX1_putFrom_2 ?_
    refine lv_icmp_lt (tgt := 9) hx hb dX1_putFrom_5 (by decide) (fun c_5_1 => ?_) (fun c_5_1 => ?_)
    · skip
      rw [if_pos c_5_1] at hw
      refine lv_iload_n hx hb dX1_putFrom_9 rfl (lv_at hl 1 rfl) ?_
      refine lv_aload_n hx hb dX1_putFrom_10 rfl (lv_at hl 0 rfl) ?_
      refine va_get (D := (dC, dI)) (ci := 1) (v := .int (σ 19 5)) (C := RX1) (T := TX1) (N := 7) hx hb hts (iwX1 _) hown hK hP 19 rfl rfl 5 (by decide) (hts _ (kc k_136)) (fun _ h9 => h9) rfl dX1_putFrom_11 ?_
      refine lv_icmp_lt (tgt := 23) hx hb dX1_putFrom_14 (by decide) (fun c_14_2 => ?_) (fun c_14_2 => ?_)
      · skip
        exact absurd c_14_2 (pf_nlt hiv ht htp htd)
      · skip
        refine lv_aload_n hx hb dX1_putFrom_17 rfl (lv_at hl 0 rfl) ?_
        refine lv_iload_n hx hb dX1_putFrom_18 rfl (lv_at hl 2 rfl) ?_
        have hFc := fr_all hD hS hA
        refine va_callv (va_runV (As := [.int x2]) (rest := []) ⟨hx, hb, hml, hown, hts⟩ (m_X1_keepTried l dC dI cI cZ a H.size σ x2 (iv_pln hiv) (iv_pl6 hiv)) (cwV 1 hts (gV k_553 k_555 k_10 k_23 k_556) rfl rfl rfl (by decide +kernel) ⟨Nat.le_of_ble_eq_true rfl, Nat.le_of_ble_eq_true rfl⟩) (pv_mu (q := (RX1, TX1, 7)) (q0 := 19) (ci := 1) hK hP hD rfl rfl) rfl rfl hl.1 rfl (lv_room (Nat.le_of_ble_eq_true rfl)) dX1_putFrom_19 ⟨Nat.le_of_ble_eq_true rfl, Nat.le_of_ble_eq_true rfl⟩) hS (fun q _ h => hFc q h) hFc (fun σ9 t H1 locs ht hvm hw9 hB hz1 hk1 hS => ?_)
        obtain ⟨hP, hK1, hD1⟩ := hB
        rw [ht] at hP
        have hD := hD1.weaken (fun _ _ _ h => hFc _ h)
        clear hFc hD1 hK1
        subst hw9
        generalize H1 = H at hP hS ⊢
        exact W.vret hx hb hr (fun t ht hW => ⟨⟨sp_keepTried σ x2, rfl, hw.symm.trans hR, by rw [ht]; exact hP, va_K.moved hW.alike hK, hD⟩, hS.F ht⟩) hS.2.2 dX1_putFrom_22
    · skip
      rw [if_neg c_5_1] at hw
      exact W.vret hx hb hr (fun t ht hW => ⟨⟨σ, rfl, hw.symm.trans hR, by rw [ht]; exact hP, va_K.moved hW.alike hK, hD⟩, hS.F ht⟩) hS.2.2 dX1_putFrom_8
  | succ D ih =>
    intro sz σ x1 x2 hiv t ht htp htd
    refine Met.ofW (cc := cX1_putFrom) (maxL := 4) (ret := none) (by decide) rfl ?_
    intro p e s m args below meth c s₁ B hml hv
    obtain ⟨rfl, hsz, hP, hK, hD0⟩ := hv
    have hx := B.exec
    have hb := B.bytes
    have hr := B.returns
    have hts := atoms_spec (ws := wsX1_putFrom) B.pre
    have hown : s.vm.findClass RX1 = some m.cls := findClass_of_methodNamed B.named
    have hlocks := B.notSynchronized
    subst hsz
    have hD := hD0.self (sz := s.heap.size)
    generalize hAe : va_A (cw cI cZ a σ) s.heap.size = A at hD ⊢
    have hA : ∀ q : Nat, s.heap.size ≤ q → A q := fun q h => by rw [← hAe]; exact Or.inr h
    clear hAe hD0
    obtain ⟨H, hHe⟩ : ∃ z, z = s.heap := ⟨_, rfl⟩
    obtain ⟨locs, hLe⟩ : ∃ z : List Loc, z = [] := ⟨_, rfl⟩
    have hS : va_S A s.heap H locs := by rw [hHe, hLe]; exact va_S.rf
    have hP : va_P (dC, dI) vwCl (cw cI cZ a σ) H := by rw [hHe]; exact hP
    refine W_ofH hHe hLe ?_
    clear hHe hLe
    have hl := lv_entry ([.ref (a 19), .int x1, .int x2]) (n := 4) (Nat.le_of_ble_eq_true rfl)
    rw [lg_entry_eq]
    generalize (lg_sl ([.ref (a 19), .int x1, .int x2]) ++ List.replicate (4 - (lg_sl ([.ref (a 19), .int x1, .int x2])).length) Slot.unset).toArray = ls at hl ⊢
    have hl : lv_has ls 4 [(0, .ref (a 19)), (1, .int x1), (2, .int x2)] := hl
    obtain ⟨R, hR⟩ : ∃ z, z = sp_putFrom (D + 1) σ x1 x2 := ⟨_, rfl⟩
    have hw := hR
    rw [sp_putFrom_s] at hw
    refine lv_iload_n hx hb dX1_putFrom_0 rfl (lv_at hl 2 rfl) ?_
    refine lv_aload_n hx hb dX1_putFrom_1 rfl (lv_at hl 0 rfl) ?_
    refine va_get (D := (dC, dI)) (ci := 1) (v := .int (σ 19 6)) (C := RX1) (T := TX1) (N := 7) hx hb hts (iwX1 _) hown hK hP 19 rfl rfl 6 (by decide) (hts _ (kc k_138)) (fun _ h9 => h9) rfl dX1_putFrom_2 ?_
    refine lv_icmp_lt (tgt := 9) hx hb dX1_putFrom_5 (by decide) (fun c_5_1 => ?_) (fun c_5_1 => ?_)
    · skip
      rw [if_pos c_5_1] at hw
      refine lv_iload_n hx hb dX1_putFrom_9 rfl (lv_at hl 1 rfl) ?_
      refine lv_aload_n hx hb dX1_putFrom_10 rfl (lv_at hl 0 rfl) ?_
      refine va_get (D := (dC, dI)) (ci := 1) (v := .int (σ 19 5)) (C := RX1) (T := TX1) (N := 7) hx hb hts (iwX1 _) hown hK hP 19 rfl rfl 5 (by decide) (hts _ (kc k_136)) (fun _ h9 => h9) rfl dX1_putFrom_11 ?_
      refine lv_icmp_lt (tgt := 23) hx hb dX1_putFrom_14 (by decide) (fun c_14_2 => ?_) (fun c_14_2 => ?_)
      · skip
        rw [if_pos c_14_2] at hw
        have hx6 : vp_in x1 6 := pf_x6 hiv ht htp c_14_2
        have htl : t < plnN σ := pf_tl hiv ht htp c_14_2
        refine lv_iconst (v := 0) hx hb dX1_putFrom_23 (by decide) ?_
        refine lv_istore_n (lv' := [(3, .int (0 : Int32)), (0, .ref (a 19)), (1, .int x1), (2, .int x2)]) hx hb dX1_putFrom_24 rfl hl (by decide) rfl (fun ls hl => ?_)
        have loop : ∀ (n k : Nat) (σ1 : St) (H : Heap) (locs : List Loc) (ls : Array Slot), k + n = 5 → IV σ1 → plnN σ1 = plnN σ → va_P (dC, dI) vwCl (cw cI cZ a σ1) H → va_D A (cw cI cZ a σ1) → va_S A s.heap H locs → lv_has ls 4 [(0, .ref (a 19)), (1, .int x1), (2, .int x2), (3, .int (nI k))] → R = sp_putFrom_25 (sp_putFrom D) x1 x2 σ1 n k → W p l e (headSpec wsX1_putFrom ({ frames := 2 + (D + 1), cells := 0, slots := 0, locals := 60 + 23 * (D + 1) })).room s m [.ref (a 19), .int x1, .int x2].toArray below meth c H locs 0 0 (MQ below (va_Qv (fun σ9 => σ9 = sp_putFrom (D + 1) σ x1 x2) (bMu dC dI cI cZ a A) A) [.ref (a 19), .int x1, .int x2].toArray s 0 0 A) (F0 m 25 ls []) := by
          intro n
          induction n with
          | zero =>
            intro k σ1 H locs ls hkn hiv1 hp1 hP hD hS hl hw
            rw [sp_putFrom_25_0] at hw
            refine lv_iload_n hx hb dX1_putFrom_25 rfl (lv_at hl 3 rfl) ?_
            refine lv_aload_n hx hb dX1_putFrom_26 rfl (lv_at hl 0 rfl) ?_
            refine va_get (D := (dC, dI)) (ci := 1) (v := .ref (a 21)) (C := RX1) (T := TX1) (N := 7) hx hb hts (iwX1 _) hown hK hP 19 rfl rfl 1 (by decide) (hts _ (kc k_131)) (fun _ h9 => h9) rfl dX1_putFrom_27 ?_
            refine lv_iload_n hx hb dX1_putFrom_30 rfl (lv_at hl 1 rfl) ?_
            refine va_iald (D := (dC, dI)) (f := σ1 21) hx hb hK hP 21 0 rfl rfl (i := x1) hx6 dX1_putFrom_31 ?_
            refine lv_icmp_gt (tgt := 95) hx hb dX1_putFrom_32 (by decide) (fun c_32_3 => ?_) (fun c_32_3 => ?_)
            · skip
              exact W.vret hx hb hr (fun t ht hW => ⟨⟨σ1, rfl, hw.symm.trans hR, by rw [ht]; exact hP, va_K.moved hW.alike hK, hD⟩, hS.F ht⟩) hS.2.2 dX1_putFrom_95
            · skip
              exact absurd (pf_l5 (iv_w hiv1 hx6) hkn) c_32_3
          | succ n ihn =>
            intro k σ1 H locs ls hkn hiv1 hp1 hP hD hS hl hw
            rw [sp_putFrom_25_s] at hw
            refine lv_iload_n hx hb dX1_putFrom_25 rfl (lv_at hl 3 rfl) ?_
            refine lv_aload_n hx hb dX1_putFrom_26 rfl (lv_at hl 0 rfl) ?_
            refine va_get (D := (dC, dI)) (ci := 1) (v := .ref (a 21)) (C := RX1) (T := TX1) (N := 7) hx hb hts (iwX1 _) hown hK hP 19 rfl rfl 1 (by decide) (hts _ (kc k_131)) (fun _ h9 => h9) rfl dX1_putFrom_27 ?_
            refine lv_iload_n hx hb dX1_putFrom_30 rfl (lv_at hl 1 rfl) ?_
            refine va_iald (D := (dC, dI)) (f := σ1 21) hx hb hK hP 21 0 rfl rfl (i := x1) hx6 dX1_putFrom_31 ?_
            refine lv_icmp_gt (tgt := 95) hx hb dX1_putFrom_32 (by decide) (fun c_32_4 => ?_) (fun c_32_4 => ?_)
            · skip
              rw [if_pos c_32_4] at hw
              exact W.vret hx hb hr (fun t ht hW => ⟨⟨σ1, rfl, hw.symm.trans hR, by rw [ht]; exact hP, va_K.moved hW.alike hK, hD⟩, hS.F ht⟩) hS.2.2 dX1_putFrom_95
            · skip
              rw [if_neg c_32_4] at hw
              have hk4 : vp_in (nI k) 4 := pf_k4 (iv_w hiv1 hx6) (by omega) c_32_4
              refine lv_aload_n hx hb dX1_putFrom_35 rfl (lv_at hl 0 rfl) ?_
              refine va_get (D := (dC, dI)) (ci := 1) (v := .ref (a 22)) (C := RX1) (T := TX1) (N := 7) hx hb hts (iwX1 _) hown hK hP 19 rfl rfl 2 (by decide) (hts _ (kc k_132)) (fun _ h9 => h9) rfl dX1_putFrom_36 ?_
              refine lv_iload_n hx hb dX1_putFrom_39 rfl (lv_at hl 1 rfl) ?_
              refine lv_iload_n hx hb dX1_putFrom_40 rfl (lv_at hl 3 rfl) ?_
              refine va_iast (D := (dC, dI)) (f := σ1 22) hx hb hK hP hD hS 22 0 rfl rfl (i := x1) (x := nI k) hx6 dX1_putFrom_41 (fun H locs hP hD hS => ?_)
              obtain ⟨σ_5, eσ_5⟩ : ∃ z : St, z = su σ1 22 x1.toNatClampNeg (nI k) := ⟨_, rfl⟩
              replace hP := P_cw_22 hP
              replace hD := D_cw_22 hD
              rw [← eσ_5] at hP hD
              replace hw : R = (let σ_7 : St := su σ_5 24 ((nI k).toNatClampNeg) ((σ_5 24 (nI k).toNatClampNeg) + (σ_5 20 x1.toNatClampNeg)); let σ_10 : St := su (sp_putFrom D σ_7 (x1 + (1 : Int32)) (if x2 < (σ_7 24 (nI k).toNatClampNeg) then (σ_7 24 (nI k).toNatClampNeg) else x2)) 24 ((nI k).toNatClampNeg) (((sp_putFrom D σ_7 (x1 + (1 : Int32)) (if x2 < (σ_7 24 (nI k).toNatClampNeg) then (σ_7 24 (nI k).toNatClampNeg) else x2)) 24 (nI k).toNatClampNeg) - ((sp_putFrom D σ_7 (x1 + (1 : Int32)) (if x2 < (σ_7 24 (nI k).toNatClampNeg) then (σ_7 24 (nI k).toNatClampNeg) else x2)) 20 x1.toNatClampNeg)); sp_putFrom_25 (sp_putFrom D) x1 x2 σ_10 n (k + 1)) := by subst eσ_5; exact hw
              have hiv_6 : IV σ_5 := by rw [eσ_5]; exact (iv_suq hiv1 (by decide))
              refine lv_aload_n hx hb dX1_putFrom_42 rfl (lv_at hl 0 rfl) ?_
              refine va_get (D := (dC, dI)) (ci := 1) (v := .ref (a 24)) (C := RX1) (T := TX1) (N := 7) hx hb hts (iwX1 _) hown hK hP 19 rfl rfl 4 (by decide) (hts _ (kc k_135)) (fun _ h9 => h9) rfl dX1_putFrom_43 ?_
              refine lv_iload_n hx hb dX1_putFrom_46 rfl (lv_at hl 3 rfl) ?_
              refine lv_dup2_11 hx hb dX1_putFrom_47 rfl rfl ?_
              refine va_iald (D := (dC, dI)) (f := σ_5 24) hx hb hK hP 24 0 rfl rfl (i := nI k) hk4 dX1_putFrom_48 ?_
              refine lv_aload_n hx hb dX1_putFrom_49 rfl (lv_at hl 0 rfl) ?_
              refine va_get (D := (dC, dI)) (ci := 1) (v := .ref (a 20)) (C := RX1) (T := TX1) (N := 7) hx hb hts (iwX1 _) hown hK hP 19 rfl rfl 0 (by decide) (hts _ (kc k_130)) (fun _ h9 => h9) rfl dX1_putFrom_50 ?_
              refine lv_iload_n hx hb dX1_putFrom_53 rfl (lv_at hl 1 rfl) ?_
              refine va_iald (D := (dC, dI)) (f := σ_5 20) hx hb hK hP 20 0 rfl rfl (i := x1) hx6 dX1_putFrom_54 ?_
              refine lv_iadd hx hb dX1_putFrom_55 ?_
              refine va_iast (D := (dC, dI)) (f := σ_5 24) hx hb hK hP hD hS 24 0 rfl rfl (i := nI k) (x := (σ_5 24 (nI k).toNatClampNeg) + (σ_5 20 x1.toNatClampNeg)) hk4 dX1_putFrom_56 (fun H locs hP hD hS => ?_)
              obtain ⟨σ_7, eσ_7⟩ : ∃ z : St, z = su σ_5 24 ((nI k).toNatClampNeg) ((σ_5 24 (nI k).toNatClampNeg) + (σ_5 20 x1.toNatClampNeg)) := ⟨_, rfl⟩
              replace hP := P_cw_24 hP
              replace hD := D_cw_24 hD
              rw [← eσ_7] at hP hD
              replace hw : R = (let σ_10 : St := su (sp_putFrom D σ_7 (x1 + (1 : Int32)) (if x2 < (σ_7 24 (nI k).toNatClampNeg) then (σ_7 24 (nI k).toNatClampNeg) else x2)) 24 ((nI k).toNatClampNeg) (((sp_putFrom D σ_7 (x1 + (1 : Int32)) (if x2 < (σ_7 24 (nI k).toNatClampNeg) then (σ_7 24 (nI k).toNatClampNeg) else x2)) 24 (nI k).toNatClampNeg) - ((sp_putFrom D σ_7 (x1 + (1 : Int32)) (if x2 < (σ_7 24 (nI k).toNatClampNeg) then (σ_7 24 (nI k).toNatClampNeg) else x2)) 20 x1.toNatClampNeg)); sp_putFrom_25 (sp_putFrom D) x1 x2 σ_10 n (k + 1)) := by subst eσ_7; exact hw
              have hiv_8 : IV σ_7 := by rw [eσ_7]; exact (iv_suq hiv_6 (by decide))
              refine lv_aload_n hx hb dX1_putFrom_57 rfl (lv_at hl 0 rfl) ?_
              refine lv_iload_n hx hb dX1_putFrom_58 rfl (lv_at hl 1 rfl) ?_
              refine lv_iconst (v := 1) hx hb dX1_putFrom_59 (by decide) ?_
              refine lv_iadd hx hb dX1_putFrom_60 ?_
              refine lv_iload_n hx hb dX1_putFrom_61 rfl (lv_at hl 2 rfl) ?_
              refine lv_aload_n hx hb dX1_putFrom_62 rfl (lv_at hl 0 rfl) ?_
              refine va_get (D := (dC, dI)) (ci := 1) (v := .ref (a 24)) (C := RX1) (T := TX1) (N := 7) hx hb hts (iwX1 _) hown hK hP 19 rfl rfl 4 (by decide) (hts _ (kc k_135)) (fun _ h9 => h9) rfl dX1_putFrom_63 ?_
              refine lv_iload_n hx hb dX1_putFrom_66 rfl (lv_at hl 3 rfl) ?_
              refine va_iald (D := (dC, dI)) (f := σ_7 24) hx hb hK hP 24 0 rfl rfl (i := nI k) hk4 dX1_putFrom_67 ?_
              refine va_mmax hx hb (hml.trans hl.1.symm) hown (hts _ (kc k_557)) (hts _ (kc k_397)) (hts _ (kc k_32)) (hts _ (kc k_398)) (by first | exact Nat.le_of_ble_eq_true rfl | (dsimp only [headSpec]; omega)) (by first | exact Nat.le_of_ble_eq_true rfl | (dsimp only [headSpec]; omega)) (by first | exact Nat.le_of_ble_eq_true rfl | (dsimp only [headSpec]; omega)) (by first | exact Nat.le_of_ble_eq_true rfl | (dsimp only [headSpec]; omega)) dX1_putFrom_68 ?_
              have hFc := fr_all hD hS hA
              have hpc : plnN σ_7 = plnN σ := (by rw [eσ_7, eσ_5]; exact hp1)
              refine va_callv (va_runV (As := [.int (x1 + (1 : Int32)), .int (if x2 < (σ_7 24 (nI k).toNatClampNeg) then (σ_7 24 (nI k).toNatClampNeg) else x2)]) (rest := []) ⟨hx, hb, hml, hown, hts⟩ (ih H.size σ_7 (x1 + (1 : Int32)) (if x2 < (σ_7 24 (nI k).toNatClampNeg) then (σ_7 24 (nI k).toNatClampNeg) else x2) hiv_8 (t + 1) (by rw [ht]; exact nI_1 t) (by omega) (by omega)) (cwV 2 hts (gV k_549 k_551 k_9 k_23 k_552) rfl rfl rfl (by decide +kernel) ⟨(by first | exact Nat.le_of_ble_eq_true rfl | (dsimp only [headSpec]; omega)), (by first | exact Nat.le_of_ble_eq_true rfl | (dsimp only [headSpec]; omega))⟩) (pv_mu (q := (RX1, TX1, 7)) (q0 := 19) (ci := 1) hK hP hD rfl rfl) rfl rfl hl.1 rfl (lv_room (Nat.le_of_ble_eq_true rfl)) dX1_putFrom_71 ⟨(by first | exact Nat.le_of_ble_eq_true rfl | (dsimp only [headSpec]; omega)), (by first | exact Nat.le_of_ble_eq_true rfl | (dsimp only [headSpec]; omega))⟩) hS (fun q _ h => hFc q h) hFc (fun σ9 t9 H1 locs ht9 hvm hw9 hB hz1 hk1 hS => ?_)
              obtain ⟨hP, hK1, hD1⟩ := hB
              rw [ht9] at hP
              have hD := hD1.weaken (fun _ _ _ h => hFc _ h)
              clear hFc hD1 hK1
              subst hw9
              generalize H1 = H at hP hS ⊢
              have hiv_9 : IV (sp_putFrom D σ_7 (x1 + (1 : Int32)) (if x2 < (σ_7 24 (nI k).toNatClampNeg) then (σ_7 24 (nI k).toNatClampNeg) else x2)) := iv_pf hiv_8 _ _ _
              have hpc : plnN (sp_putFrom D σ_7 (x1 + (1 : Int32)) (if x2 < (σ_7 24 (nI k).toNatClampNeg) then (σ_7 24 (nI k).toNatClampNeg) else x2)) = plnN σ := (pf_pln _ _ _ _).trans hpc
              refine lv_aload_n hx hb dX1_putFrom_74 rfl (lv_at hl 0 rfl) ?_
              refine va_get (D := (dC, dI)) (ci := 1) (v := .ref (a 24)) (C := RX1) (T := TX1) (N := 7) hx hb hts (iwX1 _) hown hK hP 19 rfl rfl 4 (by decide) (hts _ (kc k_135)) (fun _ h9 => h9) rfl dX1_putFrom_75 ?_
              refine lv_iload_n hx hb dX1_putFrom_78 rfl (lv_at hl 3 rfl) ?_
              refine lv_dup2_11 hx hb dX1_putFrom_79 rfl rfl ?_
              refine va_iald (D := (dC, dI)) (f := (sp_putFrom D σ_7 (x1 + (1 : Int32)) (if x2 < (σ_7 24 (nI k).toNatClampNeg) then (σ_7 24 (nI k).toNatClampNeg) else x2)) 24) hx hb hK hP 24 0 rfl rfl (i := nI k) hk4 dX1_putFrom_80 ?_
              refine lv_aload_n hx hb dX1_putFrom_81 rfl (lv_at hl 0 rfl) ?_
              refine va_get (D := (dC, dI)) (ci := 1) (v := .ref (a 20)) (C := RX1) (T := TX1) (N := 7) hx hb hts (iwX1 _) hown hK hP 19 rfl rfl 0 (by decide) (hts _ (kc k_130)) (fun _ h9 => h9) rfl dX1_putFrom_82 ?_
              refine lv_iload_n hx hb dX1_putFrom_85 rfl (lv_at hl 1 rfl) ?_
              refine va_iald (D := (dC, dI)) (f := (sp_putFrom D σ_7 (x1 + (1 : Int32)) (if x2 < (σ_7 24 (nI k).toNatClampNeg) then (σ_7 24 (nI k).toNatClampNeg) else x2)) 20) hx hb hK hP 20 0 rfl rfl (i := x1) hx6 dX1_putFrom_86 ?_
              refine lv_isub hx hb dX1_putFrom_87 ?_
              refine va_iast (D := (dC, dI)) (f := (sp_putFrom D σ_7 (x1 + (1 : Int32)) (if x2 < (σ_7 24 (nI k).toNatClampNeg) then (σ_7 24 (nI k).toNatClampNeg) else x2)) 24) hx hb hK hP hD hS 24 0 rfl rfl (i := nI k) (x := ((sp_putFrom D σ_7 (x1 + (1 : Int32)) (if x2 < (σ_7 24 (nI k).toNatClampNeg) then (σ_7 24 (nI k).toNatClampNeg) else x2)) 24 (nI k).toNatClampNeg) - ((sp_putFrom D σ_7 (x1 + (1 : Int32)) (if x2 < (σ_7 24 (nI k).toNatClampNeg) then (σ_7 24 (nI k).toNatClampNeg) else x2)) 20 x1.toNatClampNeg)) hk4 dX1_putFrom_88 (fun H locs hP hD hS => ?_)
              obtain ⟨σ_10, eσ_10⟩ : ∃ z : St, z = su (sp_putFrom D σ_7 (x1 + (1 : Int32)) (if x2 < (σ_7 24 (nI k).toNatClampNeg) then (σ_7 24 (nI k).toNatClampNeg) else x2)) 24 ((nI k).toNatClampNeg) (((sp_putFrom D σ_7 (x1 + (1 : Int32)) (if x2 < (σ_7 24 (nI k).toNatClampNeg) then (σ_7 24 (nI k).toNatClampNeg) else x2)) 24 (nI k).toNatClampNeg) - ((sp_putFrom D σ_7 (x1 + (1 : Int32)) (if x2 < (σ_7 24 (nI k).toNatClampNeg) then (σ_7 24 (nI k).toNatClampNeg) else x2)) 20 x1.toNatClampNeg)) := ⟨_, rfl⟩
              replace hP := P_cw_24 hP
              replace hD := D_cw_24 hD
              rw [← eσ_10] at hP hD
              replace hw : R = (sp_putFrom_25 (sp_putFrom D) x1 x2 σ_10 n (k + 1)) := by subst eσ_10; exact hw
              have hiv_11 : IV σ_10 := by rw [eσ_10]; exact (iv_suq hiv_9 (by decide))
              refine lv_iinc (v := (nI (k + 1))) (lv' := [(3, .int (nI (k + 1))), (0, .ref (a 19)), (1, .int x1), (2, .int x2)]) hx hb dX1_putFrom_89 hl (k := 3) rfl (nI_1 k) (by decide) rfl (fun ls hl => ?_)
              refine lv_goto (tgt := 25) hx hb dX1_putFrom_92 (by decide) ?_
              exact ihn (k + 1) σ_10 H locs ls (by omega) hiv_11 (by rw [eσ_10]; exact hpc) hP hD hS (lv_sub hl [1, 2, 3, 0] rfl) hw
        exact loop 5 0 σ H locs ls rfl hiv rfl hP hD hS (lv_sub hl [1, 2, 3, 0] rfl) hw
      · skip
        rw [if_neg c_14_2] at hw
        refine lv_aload_n hx hb dX1_putFrom_17 rfl (lv_at hl 0 rfl) ?_
        refine lv_iload_n hx hb dX1_putFrom_18 rfl (lv_at hl 2 rfl) ?_
        have hFc := fr_all hD hS hA
        refine va_callv (va_runV (As := [.int x2]) (rest := []) ⟨hx, hb, hml, hown, hts⟩ (m_X1_keepTried l dC dI cI cZ a H.size σ x2 (iv_pln hiv) (iv_pl6 hiv)) (cwV 1 hts (gV k_553 k_555 k_10 k_23 k_556) rfl rfl rfl (by decide +kernel) ⟨(by first | exact Nat.le_of_ble_eq_true rfl | (dsimp only [headSpec]; omega)), (by first | exact Nat.le_of_ble_eq_true rfl | (dsimp only [headSpec]; omega))⟩) (pv_mu (q := (RX1, TX1, 7)) (q0 := 19) (ci := 1) hK hP hD rfl rfl) rfl rfl hl.1 rfl (lv_room (Nat.le_of_ble_eq_true rfl)) dX1_putFrom_19 ⟨(by first | exact Nat.le_of_ble_eq_true rfl | (dsimp only [headSpec]; omega)), (by first | exact Nat.le_of_ble_eq_true rfl | (dsimp only [headSpec]; omega))⟩) hS (fun q _ h => hFc q h) hFc (fun σ9 t H1 locs ht hvm hw9 hB hz1 hk1 hS => ?_)
        obtain ⟨hP, hK1, hD1⟩ := hB
        rw [ht] at hP
        have hD := hD1.weaken (fun _ _ _ h => hFc _ h)
        clear hFc hD1 hK1
        subst hw9
        generalize H1 = H at hP hS ⊢
        exact W.vret hx hb hr (fun t ht hW => ⟨⟨sp_keepTried σ x2, rfl, hw.symm.trans hR, by rw [ht]; exact hP, va_K.moved hW.alike hK, hD⟩, hS.F ht⟩) hS.2.2 dX1_putFrom_22
    · skip
      rw [if_neg c_5_1] at hw
      exact W.vret hx hb hr (fun t ht hW => ⟨⟨σ, rfl, hw.symm.trans hR, by rw [ht]; exact hP, va_K.moved hW.alike hK, hD⟩, hS.F ht⟩) hS.2.2 dX1_putFrom_8
set_option maxHeartbeats 4000000 in
set_option maxRecDepth 100000 in
theorem m_X1_make (l : Launch) (dC : Nat → ClassId) (dI : Nat → Nat → Nat) (cI cZ : ClassId) (a : Nat → Nat) (sz : Nat) (σ : St) (x1 : Int64) (x3 : Int32) (x4 : Int32) (x5 : Int32) (hiv : IV σ) (hn : x4 = nI x4.toNatClampNeg) (hn6 : x4.toNatClampNeg ≤ 6) (h5 : vp_in (x5 - (1 : Int32)) 4) : Met l yX1_make wsX1_make ({ frames := 9, cells := 0, slots := 0, locals := 221 }) (pMu dC dI cI cZ a sz σ [.ref (a 19), .long x1, .int x3, .int x4, .int x5]) (va_Qi (fun r σ9 => (r, σ9) = sp_make σ x1 x3 x4 x5) (bMu dC dI cI cZ a (va_A (cw cI cZ a σ) sz)) (va_A (cw cI cZ a σ) sz)) 0 0 (va_A (cw cI cZ a σ) sz) := by
  refine Met.ofW (cc := cX1_make) (maxL := 7) (ret := (some .int)) (by decide) rfl ?_
  intro p e s m args below meth c s₁ B hml hv
  obtain ⟨rfl, hsz, hP, hK, hD0⟩ := hv
  have hx := B.exec
  have hb := B.bytes
  have hr := B.returns
  have hts := atoms_spec (ws := wsX1_make) B.pre
  have hown : s.vm.findClass RX1 = some m.cls := findClass_of_methodNamed B.named
  have hlocks := B.notSynchronized
  subst hsz
  have hD := hD0.self (sz := s.heap.size)
  generalize hAe : va_A (cw cI cZ a σ) s.heap.size = A at hD ⊢
  have hA : ∀ q : Nat, s.heap.size ≤ q → A q := fun q h => by rw [← hAe]; exact Or.inr h
  clear hAe hD0
  obtain ⟨H, hHe⟩ : ∃ z, z = s.heap := ⟨_, rfl⟩
  obtain ⟨locs, hLe⟩ : ∃ z : List Loc, z = [] := ⟨_, rfl⟩
  have hS : va_S A s.heap H locs := by rw [hHe, hLe]; exact va_S.rf
  have hP : va_P (dC, dI) vwCl (cw cI cZ a σ) H := by rw [hHe]; exact hP
  refine W_ofH hHe hLe ?_
  clear hHe hLe
  have hl := lv_entry ([.ref (a 19), .long x1, .int x3, .int x4, .int x5]) (n := 7) (Nat.le_of_ble_eq_true rfl)
  rw [lg_entry_eq]
  generalize (lg_sl ([.ref (a 19), .long x1, .int x3, .int x4, .int x5]) ++ List.replicate (7 - (lg_sl ([.ref (a 19), .long x1, .int x3, .int x4, .int x5])).length) Slot.unset).toArray = ls at hl ⊢
  have hl : lv_has ls 7 [(0, .ref (a 19)), (1, .long x1), (3, .int x3), (4, .int x4), (5, .int x5)] := hl
  obtain ⟨R, hR⟩ : ∃ z, z = sp_make σ x1 x3 x4 x5 := ⟨_, rfl⟩
  have hw := hR
  unfold sp_make at hw
  refine lv_iconst (v := 0) hx hb dX1_make_0 (by decide) ?_
  refine lv_istore (lv' := [(6, .int (0 : Int32)), (0, .ref (a 19)), (1, .long x1), (3, .int x3), (4, .int x4), (5, .int x5)]) hx hb dX1_make_1 hl (by decide) rfl (fun ls hl => ?_)
  have loop : ∀ (n k : Nat) (σ1 : St) (H : Heap) (locs : List Loc) (ls : Array Slot), k + n = x4.toNatClampNeg → IV σ1 → va_P (dC, dI) vwCl (cw cI cZ a σ1) H → va_D A (cw cI cZ a σ1) → va_S A s.heap H locs → lv_has ls 7 [(0, .ref (a 19)), (1, .long x1), (3, .int x3), (4, .int x4), (5, .int x5), (6, .int (nI k))] → R = sp_make_3 σ x1 x3 x4 x5 σ1 n k → W p l e (headSpec wsX1_make ({ frames := 9, cells := 0, slots := 0, locals := 221 })).room s m [.ref (a 19), .long x1, .int x3, .int x4, .int x5].toArray below meth c H locs 0 0 (MQ below (va_Qi (fun r σ9 => (r, σ9) = sp_make σ x1 x3 x4 x5) (bMu dC dI cI cZ a A) A) [.ref (a 19), .long x1, .int x3, .int x4, .int x5].toArray s 0 0 A) (F0 m 3 ls []) := by
    intro n
    induction n with
    | zero =>
      intro k σ1 H locs ls hkn hiv1 hP hD hS hl hw
      rw [sp_make_3_0] at hw
      refine lv_iload hx hb dX1_make_3 (lv_at hl 5 rfl) ?_
      refine lv_iload hx hb dX1_make_5 (lv_at hl 3 rfl) ?_
      refine lv_icmp_ge (tgt := 57) hx hb dX1_make_7 (by decide) (fun c_7_1 => ?_) (fun c_7_1 => ?_)
      · skip
        refine lv_aload_n hx hb dX1_make_57 rfl (lv_at hl 0 rfl) ?_
        refine lv_iload hx hb dX1_make_58 (lv_at hl 3 rfl) ?_
        refine va_put (D := (dC, dI)) (ci := 1) (v := .int x4) (ty := .int) (C := RX1) (T := TX1) (N := 7) hx hb hts (iwX1 _) tyX1 tyX1_ok nmX1 hown hK hP hD hS 19 rfl rfl 5 (by decide) (hts _ (kc k_136)) (fun _ h9 => h9) rfl (by decide +kernel) rfl rfl (Nat.le_of_ble_eq_true rfl) dX1_make_60 (fun H locs hP hD hS => ?_)
        obtain ⟨σ_2, eσ_2⟩ : ∃ z : St, z = su σ1 19 5 x4 := ⟨_, rfl⟩
        replace hP := P_cw_19_5 hP
        replace hD := D_cw_19_5 hD
        rw [← eσ_2] at hP hD
        replace hw : R = (let σ_4 : St := su σ_2 19 6 (2147483647 : Int32); ((sp_putFrom 6 σ_4 (0 : Int32) (0 : Int32)) 19 6, sp_putFrom 6 σ_4 (0 : Int32) (0 : Int32))) := by subst eσ_2; exact hw
        have hiv_3 : IV σ_2 := by rw [eσ_2]; exact (iv_su195 hiv1 hn hn6)
        refine lv_aload_n hx hb dX1_make_63 rfl (lv_at hl 0 rfl) ?_
        refine lv_ldc (own := RX1) (v := 2147483647) hx hb hown (hts _ (kc k_548)) dX1_make_64 ?_
        refine va_put (D := (dC, dI)) (ci := 1) (v := .int (2147483647 : Int32)) (ty := .int) (C := RX1) (T := TX1) (N := 7) hx hb hts (iwX1 _) tyX1 tyX1_ok nmX1 hown hK hP hD hS 19 rfl rfl 6 (by decide) (hts _ (kc k_138)) (fun _ h9 => h9) rfl (by decide +kernel) rfl rfl (Nat.le_of_ble_eq_true rfl) dX1_make_66 (fun H locs hP hD hS => ?_)
        obtain ⟨σ_4, eσ_4⟩ : ∃ z : St, z = su σ_2 19 6 (2147483647 : Int32) := ⟨_, rfl⟩
        replace hP := P_cw_19_6 hP
        replace hD := D_cw_19_6 hD
        rw [← eσ_4] at hP hD
        replace hw : R = (((sp_putFrom 6 σ_4 (0 : Int32) (0 : Int32)) 19 6, sp_putFrom 6 σ_4 (0 : Int32) (0 : Int32))) := by subst eσ_4; exact hw
        have hiv_5 : IV σ_4 := by rw [eσ_4]; exact (iv_su196 hiv_3)
        refine lv_aload_n hx hb dX1_make_69 rfl (lv_at hl 0 rfl) ?_
        refine lv_iconst (v := 0) hx hb dX1_make_70 (by decide) ?_
        refine lv_iconst (v := 0) hx hb dX1_make_71 (by decide) ?_
        have hFc := fr_all hD hS hA
        refine va_callv (va_runV (As := [.int (0 : Int32), .int (0 : Int32)]) (rest := []) ⟨hx, hb, hml, hown, hts⟩ (m_X1_putFrom l dC dI cI cZ a 6 H.size σ_4 (0 : Int32) (0 : Int32) hiv_5 0 rfl (Nat.zero_le _) (by have := iv_pl6 hiv_5; omega)) (cwV 2 hts (gV k_549 k_551 k_9 k_23 k_552) rfl rfl rfl (by decide +kernel) ⟨Nat.le_of_ble_eq_true rfl, Nat.le_of_ble_eq_true rfl⟩) (pv_mu (q := (RX1, TX1, 7)) (q0 := 19) (ci := 1) hK hP hD rfl rfl) rfl rfl hl.1 rfl (lv_room (Nat.le_of_ble_eq_true rfl)) dX1_make_72 ⟨Nat.le_of_ble_eq_true rfl, Nat.le_of_ble_eq_true rfl⟩) hS (fun q _ h => hFc q h) hFc (fun σ9 t H1 locs ht hvm hw9 hB hz1 hk1 hS => ?_)
        obtain ⟨hP, hK1, hD1⟩ := hB
        rw [ht] at hP
        have hD := hD1.weaken (fun _ _ _ h => hFc _ h)
        clear hFc hD1 hK1
        subst hw9
        generalize H1 = H at hP hS ⊢
        refine lv_aload_n hx hb dX1_make_75 rfl (lv_at hl 0 rfl) ?_
        refine va_get (D := (dC, dI)) (ci := 1) (v := .int ((sp_putFrom 6 σ_4 (0 : Int32) (0 : Int32)) 19 6)) (C := RX1) (T := TX1) (N := 7) hx hb hts (iwX1 _) hown hK hP 19 rfl rfl 6 (by decide) (hts _ (kc k_138)) (fun _ h9 => h9) rfl dX1_make_76 ?_
        exact W.iret (v := (sp_putFrom 6 σ_4 (0 : Int32) (0 : Int32)) 19 6) hx hb hr (fun t ht hW => ⟨⟨(sp_putFrom 6 σ_4 (0 : Int32) (0 : Int32)) 19 6, sp_putFrom 6 σ_4 (0 : Int32) (0 : Int32), rfl, hw.symm.trans hR, by rw [ht]; exact hP, va_K.moved hW.alike hK, hD⟩, hS.F ht⟩) hS.2.2 dX1_make_79
      · skip
        exact absurd (lpE hn hkn (by omega)) c_7_1
    | succ n ih =>
      intro k σ1 H locs ls hkn hiv1 hP hD hS hl hw
      rw [sp_make_3_s] at hw
      have hkf : vp_in (nI k) 6 := vp_in_nI (by omega) (by decide)
      refine lv_iload hx hb dX1_make_3 (lv_at hl 5 rfl) ?_
      refine lv_iload hx hb dX1_make_5 (lv_at hl 3 rfl) ?_
      refine lv_icmp_ge (tgt := 57) hx hb dX1_make_7 (by decide) (fun c_7_6 => ?_) (fun c_7_6 => ?_)
      · skip
        exact absurd c_7_6 (lpB hn hkn (by omega))
      · skip
        refine lv_aload_n hx hb dX1_make_10 rfl (lv_at hl 0 rfl) ?_
        refine va_get (D := (dC, dI)) (ci := 1) (v := .ref (a 20)) (C := RX1) (T := TX1) (N := 7) hx hb hts (iwX1 _) hown hK hP 19 rfl rfl 0 (by decide) (hts _ (kc k_130)) (fun _ h9 => h9) rfl dX1_make_11 ?_
        refine lv_iload hx hb dX1_make_14 (lv_at hl 5 rfl) ?_
        refine lv_lload_n hx hb dX1_make_16 rfl (lv_at hl 1 rfl) ?_
        refine lv_bipush (v := 8) hx hb dX1_make_17 (by decide) ?_
        refine lv_iload hx hb dX1_make_19 (lv_at hl 5 rfl) ?_
        refine lv_imul hx hb dX1_make_21 ?_
        refine lv_lushr hx hb dX1_make_22 rfl ?_
        refine lv_l2i hx hb dX1_make_23 rfl ?_
        refine lv_sipush (v := 255) hx hb dX1_make_24 (by decide) ?_
        refine lv_iand hx hb dX1_make_27 ?_
        refine va_iast (D := (dC, dI)) (f := σ1 20) hx hb hK hP hD hS 20 0 rfl rfl (i := nI k) (x := (((x1.toUInt64 >>> (((8 : Int32) * (nI k)).toInt64.toUInt64 &&& Int64.toUInt64 63)).toInt64).toInt32) &&& (255 : Int32)) hkf dX1_make_28 (fun H locs hP hD hS => ?_)
        obtain ⟨σ_7, eσ_7⟩ : ∃ z : St, z = su σ1 20 ((nI k).toNatClampNeg) ((((x1.toUInt64 >>> (((8 : Int32) * (nI k)).toInt64.toUInt64 &&& Int64.toUInt64 63)).toInt64).toInt32) &&& (255 : Int32)) := ⟨_, rfl⟩
        replace hP := P_cw_20 hP
        replace hD := D_cw_20 hD
        rw [← eσ_7] at hP hD
        replace hw : R = (let σ_9 : St := su σ_7 21 ((nI k).toNatClampNeg) (if (x5 - (1 : Int32)) < (((x3.toUInt32 >>> (((2 : Int32) * (nI k)).toUInt32 &&& Int32.toUInt32 31)).toInt32) &&& (3 : Int32)) then (x5 - (1 : Int32)) else (((x3.toUInt32 >>> (((2 : Int32) * (nI k)).toUInt32 &&& Int32.toUInt32 31)).toInt32) &&& (3 : Int32))); sp_make_3 σ x1 x3 x4 x5 σ_9 n (k + 1)) := by subst eσ_7; exact hw
        have hiv_8 : IV σ_7 := by rw [eσ_7]; exact (iv_suq hiv1 (by decide))
        refine lv_aload_n hx hb dX1_make_29 rfl (lv_at hl 0 rfl) ?_
        refine va_get (D := (dC, dI)) (ci := 1) (v := .ref (a 21)) (C := RX1) (T := TX1) (N := 7) hx hb hts (iwX1 _) hown hK hP 19 rfl rfl 1 (by decide) (hts _ (kc k_131)) (fun _ h9 => h9) rfl dX1_make_30 ?_
        refine lv_iload hx hb dX1_make_33 (lv_at hl 5 rfl) ?_
        refine lv_iload_n hx hb dX1_make_35 rfl (lv_at hl 2 rfl) ?_
        refine lv_iconst (v := 2) hx hb dX1_make_36 (by decide) ?_
        refine lv_iload hx hb dX1_make_37 (lv_at hl 5 rfl) ?_
        refine lv_imul hx hb dX1_make_39 ?_
        refine lv_iushr hx hb dX1_make_40 rfl ?_
        refine lv_iconst (v := 3) hx hb dX1_make_41 (by decide) ?_
        refine lv_iand hx hb dX1_make_42 ?_
        refine lv_iload hx hb dX1_make_43 (lv_at hl 4 rfl) ?_
        refine lv_iconst (v := 1) hx hb dX1_make_45 (by decide) ?_
        refine lv_isub hx hb dX1_make_46 ?_
        refine va_mmin hx hb (hml.trans hl.1.symm) hown (hts _ (kc k_547)) (hts _ (kc k_390)) (hts _ (kc k_32)) (hts _ (kc k_391)) (Nat.le_of_ble_eq_true rfl) (Nat.le_of_ble_eq_true rfl) (Nat.le_of_ble_eq_true rfl) (Nat.le_of_ble_eq_true rfl) dX1_make_47 ?_
        refine va_iast (D := (dC, dI)) (f := σ_7 21) hx hb hK hP hD hS 21 0 rfl rfl (i := nI k) (x := (if (x5 - (1 : Int32)) < (((x3.toUInt32 >>> (((2 : Int32) * (nI k)).toUInt32 &&& Int32.toUInt32 31)).toInt32) &&& (3 : Int32)) then (x5 - (1 : Int32)) else (((x3.toUInt32 >>> (((2 : Int32) * (nI k)).toUInt32 &&& Int32.toUInt32 31)).toInt32) &&& (3 : Int32)))) hkf dX1_make_50 (fun H locs hP hD hS => ?_)
        obtain ⟨σ_9, eσ_9⟩ : ∃ z : St, z = su σ_7 21 ((nI k).toNatClampNeg) (if (x5 - (1 : Int32)) < (((x3.toUInt32 >>> (((2 : Int32) * (nI k)).toUInt32 &&& Int32.toUInt32 31)).toInt32) &&& (3 : Int32)) then (x5 - (1 : Int32)) else (((x3.toUInt32 >>> (((2 : Int32) * (nI k)).toUInt32 &&& Int32.toUInt32 31)).toInt32) &&& (3 : Int32))) := ⟨_, rfl⟩
        replace hP := P_cw_21 hP
        replace hD := D_cw_21 hD
        rw [← eσ_9] at hP hD
        replace hw : R = (sp_make_3 σ x1 x3 x4 x5 σ_9 n (k + 1)) := by subst eσ_9; exact hw
        have hiv_10 : IV σ_9 := by rw [eσ_9]; exact (iv_su21 hiv_8 (mk_in h5))
        refine lv_iinc (v := (nI (k + 1))) (lv' := [(6, .int (nI (k + 1))), (0, .ref (a 19)), (1, .long x1), (3, .int x3), (4, .int x4), (5, .int x5)]) hx hb dX1_make_51 hl (k := 5) rfl (nI_1 k) (by decide) rfl (fun ls hl => ?_)
        refine lv_goto (tgt := 3) hx hb dX1_make_54 (by decide) ?_
        exact ih (k + 1) σ_9 H locs ls (by omega) hiv_10 hP hD hS (lv_sub hl [1, 2, 3, 4, 5, 0] rfl) hw
  exact loop x4.toNatClampNeg 0 σ H locs ls (Nat.zero_add _) hiv hP hD hS (lv_sub hl [1, 2, 3, 4, 5, 0] rfl) hw
set_option maxHeartbeats 4000000 in
set_option maxRecDepth 100000 in
theorem m_X3_checkLetter (l : Launch) (zk : Nat → Nat) (x0 : Int32) : Met l yX3_checkLetter wsX3_checkLetter ({ frames := 0, cells := 0, slots := 0, locals := 0 }) (va_Pc [.int x0] (fun U => zT zk (fun _ => False) U U.heap)) (vp_Si (fun r => r = sp_checkLetter x0)) 0 0 (fun _ => False) := by
  refine Met.ofW (cc := cX3_checkLetter) (maxL := 4) (ret := (some .int)) (by decide) rfl ?_
  intro p e s m args below meth c s₁ B hml hv
  obtain ⟨rfl, hZ, hT⟩ := hv
  have hx := B.exec
  have hb := B.bytes
  have hr := B.returns
  have hts := atoms_spec (ws := wsX3_checkLetter) B.pre
  have hown : s.vm.findClass RX3 = some m.cls := findClass_of_methodNamed B.named
  have hlocks := B.notSynchronized
  have hl := lv_entry ([.int x0]) (n := 4) (Nat.le_of_ble_eq_true rfl)
  rw [lg_entry_eq]
  generalize (lg_sl ([.int x0]) ++ List.replicate (4 - (lg_sl ([.int x0])).length) Slot.unset).toArray = ls at hl ⊢
  have hl : lv_has ls 4 [(0, .int x0)] := hl
  obtain ⟨R, hR⟩ : ∃ z, z = sp_checkLetter x0 := ⟨_, rfl⟩
  have hw := hR
  unfold sp_checkLetter at hw
  have hS : va_S (fun _ => False) s.heap s.heap [] := va_S.rf
  refine lv_iload_n hx hb dX3_checkLetter_0 rfl (lv_at hl 0 rfl) ?_
  refine lv_istore_n (lv' := [(1, .int x0), (0, .int x0)]) hx hb dX3_checkLetter_1 rfl hl (by decide) rfl (fun ls hl => ?_)
  refine lv_iconst (v := 0) hx hb dX3_checkLetter_2 (by decide) ?_
  refine lv_istore_n (lv' := [(2, .int (0 : Int32)), (1, .int x0), (0, .int x0)]) hx hb dX3_checkLetter_3 rfl hl (by decide) rfl (fun ls hl => ?_)
  refine lv_iconst (v := 0) hx hb dX3_checkLetter_4 (by decide) ?_
  refine lv_istore_n (lv' := [(3, .int (0 : Int32)), (2, .int (0 : Int32)), (1, .int x0), (0, .int x0)]) hx hb dX3_checkLetter_5 rfl hl (by decide) rfl (fun ls hl => ?_)
  have loop : ∀ (n k : Nat) (x1 : Int32) (x2 : Int32) (ls : Array Slot), k + n = 6 → lv_has ls 4 [(0, .int x0), (1, .int x1), (2, .int x2), (3, .int (nI k))] → R = sp_checkLetter_6 x0 n k x1 x2 → W p l e (headSpec wsX3_checkLetter ({ frames := 0, cells := 0, slots := 0, locals := 0 })).room s m [.int x0].toArray below meth c s.heap [] 0 0 (MQ below (vp_Si (fun r => r = sp_checkLetter x0)) [.int x0].toArray s 0 0 (fun _ => False)) (F0 m 6 ls []) := by
    intro n
    induction n with
    | zero =>
      intro k x1 x2 ls hkn hl hw
      rw [sp_checkLetter_6_0] at hw
      refine lv_iload_n hx hb dX3_checkLetter_6 rfl (lv_at hl 3 rfl) ?_
      refine va_gets (C := "HoseTests") (n := "DIGIT_WEIGHTS") (d := "[I") (v := .ref (zk 9)) hx hb hZ hS hown (hts _ (kc k_309)) (fun _ h9 => h9) dX3_checkLetter_7 ?_
      refine va_tlen hx hb hT hS (v := 6) rfl dX3_checkLetter_10 ?_
      refine lv_icmp_ge (tgt := 38) hx hb dX3_checkLetter_11 (by decide) (fun c_11_1 => ?_) (fun c_11_1 => ?_)
      · skip
        refine lv_bipush (v := 65) hx hb dX3_checkLetter_38 (by decide) ?_
        refine lv_iload_n hx hb dX3_checkLetter_40 rfl (lv_at hl 2 rfl) ?_
        refine lv_bipush (v := 23) hx hb dX3_checkLetter_41 (by decide) ?_
        refine lv_irem hx hb dX3_checkLetter_43 (by decide) ?_
        refine lv_iadd hx hb dX3_checkLetter_44 ?_
        exact W.iret (v := (65 : Int32) + (x2 - x2 / (23 : Int32) * (23 : Int32))) hx hb hr (fun t ht hW => ⟨_, rfl, hw.symm.trans hR, ht⟩) (fun _ h => by cases h) dX3_checkLetter_45
      · skip
        exact absurd (lpE ht_6 hkn (by omega)) c_11_1
    | succ n ih =>
      intro k x1 x2 ls hkn hl hw
      rw [sp_checkLetter_6_s] at hw
      have hkf : vp_in (nI k) 6 := vp_in_nI (by omega) (by decide)
      refine lv_iload_n hx hb dX3_checkLetter_6 rfl (lv_at hl 3 rfl) ?_
      refine va_gets (C := "HoseTests") (n := "DIGIT_WEIGHTS") (d := "[I") (v := .ref (zk 9)) hx hb hZ hS hown (hts _ (kc k_309)) (fun _ h9 => h9) dX3_checkLetter_7 ?_
      refine va_tlen hx hb hT hS (v := 6) rfl dX3_checkLetter_10 ?_
      refine lv_icmp_ge (tgt := 38) hx hb dX3_checkLetter_11 (by decide) (fun c_11_2 => ?_) (fun c_11_2 => ?_)
      · skip
        exact absurd c_11_2 (lpB ht_6 hkn (by omega))
      · skip
        refine lv_iload_n hx hb dX3_checkLetter_14 rfl (lv_at hl 2 rfl) ?_
        refine lv_iload_n hx hb dX3_checkLetter_15 rfl (lv_at hl 1 rfl) ?_
        refine lv_bipush (v := 10) hx hb dX3_checkLetter_16 (by decide) ?_
        refine lv_irem hx hb dX3_checkLetter_18 (by decide) ?_
        refine va_gets (C := "HoseTests") (n := "DIGIT_WEIGHTS") (d := "[I") (v := .ref (zk 9)) hx hb hZ hS hown (hts _ (kc k_309)) (fun _ h9 => h9) dX3_checkLetter_19 ?_
        refine lv_iload_n hx hb dX3_checkLetter_22 rfl (lv_at hl 3 rfl) ?_
        refine va_ti hx hb hT hS (i := nI k) hkf (v := .int (wtF (nI k).toNatClampNeg)) rfl dX3_checkLetter_23 ?_
        refine lv_imul hx hb dX3_checkLetter_24 ?_
        refine lv_iadd hx hb dX3_checkLetter_25 ?_
        refine lv_istore_n (lv' := [(2, .int (x2 + ((x1 - x1 / (10 : Int32) * (10 : Int32)) * (wtF (nI k).toNatClampNeg)))), (0, .int x0), (1, .int x1), (3, .int (nI k))]) hx hb dX3_checkLetter_26 rfl hl (by decide) rfl (fun ls hl => ?_)
        refine lv_iload_n hx hb dX3_checkLetter_27 rfl (lv_at hl 2 rfl) ?_
        refine lv_bipush (v := 10) hx hb dX3_checkLetter_28 (by decide) ?_
        refine lv_idiv hx hb dX3_checkLetter_30 (by decide) ?_
        refine lv_istore_n (lv' := [(1, .int (x1 / (10 : Int32))), (2, .int (x2 + ((x1 - x1 / (10 : Int32) * (10 : Int32)) * (wtF (nI k).toNatClampNeg)))), (0, .int x0), (3, .int (nI k))]) hx hb dX3_checkLetter_31 rfl hl (by decide) rfl (fun ls hl => ?_)
        refine lv_iinc (v := (nI (k + 1))) (lv' := [(3, .int (nI (k + 1))), (1, .int (x1 / (10 : Int32))), (2, .int (x2 + ((x1 - x1 / (10 : Int32) * (10 : Int32)) * (wtF (nI k).toNatClampNeg)))), (0, .int x0)]) hx hb dX3_checkLetter_32 hl (k := 3) rfl (nI_1 k) (by decide) rfl (fun ls hl => ?_)
        refine lv_goto (tgt := 6) hx hb dX3_checkLetter_35 (by decide) ?_
        exact ih (k + 1) (x1 / (10 : Int32)) (x2 + ((x1 - x1 / (10 : Int32) * (10 : Int32)) * (wtF (nI k).toNatClampNeg))) ls (by omega) (lv_sub hl [3, 1, 2, 0] rfl) hw
  exact loop 6 0 x0 (0 : Int32) ls (Nat.zero_add _) (lv_sub hl [3, 2, 1, 0] rfl) hw
set_option maxHeartbeats 4000000 in
set_option maxRecDepth 100000 in
theorem m_X3_commonDivisor (l : Launch) (x0 : Int32) (x1 : Int32) (d : Nat) (hd : x1 = nI (d + 1)) (hd1 : d < 1000) : Met l yX3_commonDivisor wsX3_commonDivisor ({ frames := 0, cells := 0, slots := 0, locals := 0 }) (va_Pc [.int x0, .int x1] (fun _ => True)) (vp_Si (fun r => r = sp_commonDivisor x0 x1)) 0 0 (fun _ => False) := by
  refine Met.ofW (cc := cX3_commonDivisor) (maxL := 3) (ret := (some .int)) (by decide) rfl ?_
  intro p e s m args below meth c s₁ B hml hv
  obtain ⟨rfl, -⟩ := hv
  have hx := B.exec
  have hb := B.bytes
  have hr := B.returns
  have hts := atoms_spec (ws := wsX3_commonDivisor) B.pre
  have hown : s.vm.findClass RX3 = some m.cls := findClass_of_methodNamed B.named
  have hlocks := B.notSynchronized
  have hl := lv_entry ([.int x0, .int x1]) (n := 3) (Nat.le_of_ble_eq_true rfl)
  rw [lg_entry_eq]
  generalize (lg_sl ([.int x0, .int x1]) ++ List.replicate (3 - (lg_sl ([.int x0, .int x1])).length) Slot.unset).toArray = ls at hl ⊢
  have hl : lv_has ls 3 [(0, .int x0), (1, .int x1)] := hl
  obtain ⟨R, hR⟩ : ∃ z, z = sp_commonDivisor x0 x1 := ⟨_, rfl⟩
  have hw := hR
  unfold sp_commonDivisor at hw
  refine lv_iload_n hx hb dX3_commonDivisor_0 rfl (lv_at hl 1 rfl) ?_
  refine lv_istore_n (lv' := [(2, .int x1), (0, .int x0), (1, .int x1)]) hx hb dX3_commonDivisor_1 rfl hl (by decide) rfl (fun ls hl => ?_)
  have loop : ∀ (n : Nat) (ls : Array Slot), n ≤ d → lv_has ls 3 [(0, .int x0), (1, .int x1), (2, .int (nI (n + 1)))] → R = sp_commonDivisor_2 x0 x1 n → W p l e (headSpec wsX3_commonDivisor ({ frames := 0, cells := 0, slots := 0, locals := 0 })).room s m [.int x0, .int x1].toArray below meth c s.heap [] 0 0 (MQ below (vp_Si (fun r => r = sp_commonDivisor x0 x1)) [.int x0, .int x1].toArray s 0 0 (fun _ => False)) (F0 m 2 ls []) := by
    intro n
    induction n with
    | zero =>
      intro ls hn hl hw
      rw [sp_commonDivisor_2_0] at hw
      refine lv_iload_n hx hb dX3_commonDivisor_2 rfl (lv_at hl 2 rfl) ?_
      refine lv_iconst (v := 1) hx hb dX3_commonDivisor_3 (by decide) ?_
      refine lv_icmp_le (tgt := 27) hx hb dX3_commonDivisor_4 (by decide) (fun c_4_1 => ?_) (fun c_4_1 => ?_)
      · skip
        refine lv_iconst (v := 1) hx hb dX3_commonDivisor_27 (by decide) ?_
        exact W.iret (v := (1 : Int32)) hx hb hr (fun t ht hW => ⟨_, rfl, hw.symm.trans hR, ht⟩) (fun _ h => by cases h) dX3_commonDivisor_28
      · skip
        exact absurd (by decide) c_4_1
    | succ n ih =>
      intro ls hn hl hw
      rw [sp_commonDivisor_2_s] at hw
      refine lv_iload_n hx hb dX3_commonDivisor_2 rfl (lv_at hl 2 rfl) ?_
      refine lv_iconst (v := 1) hx hb dX3_commonDivisor_3 (by decide) ?_
      refine lv_icmp_le (tgt := 27) hx hb dX3_commonDivisor_4 (by decide) (fun c_4_2 => ?_) (fun c_4_2 => ?_)
      · skip
        exact absurd c_4_2 (cd_gt hn hd1)
      · skip
        refine lv_iload_n hx hb dX3_commonDivisor_7 rfl (lv_at hl 1 rfl) ?_
        refine lv_iload_n hx hb dX3_commonDivisor_8 rfl (lv_at hl 2 rfl) ?_
        refine lv_irem hx hb dX3_commonDivisor_9 (nI_ne0 (by omega) (by omega)) ?_
        refine lv_if_ne (tgt := 21) hx hb dX3_commonDivisor_10 (by decide) (fun c_10_3 => ?_) (fun c_10_3 => ?_)
        · skip
          rw [if_neg c_10_3] at hw
          refine lv_iinc (v := (nI (n + 1))) (lv' := [(2, .int (nI (n + 1))), (0, .int x0), (1, .int x1)]) hx hb dX3_commonDivisor_21 hl (k := 2) rfl (pk_m1 (n + 1)) (by decide) rfl (fun ls hl => ?_)
          refine lv_goto (tgt := 2) hx hb dX3_commonDivisor_24 (by decide) ?_
          exact ih ls (by omega) (lv_sub hl [1, 2, 0] rfl) hw
        · skip
          rw [if_pos c_10_3] at hw
          refine lv_iload_n hx hb dX3_commonDivisor_13 rfl (lv_at hl 0 rfl) ?_
          refine lv_iload_n hx hb dX3_commonDivisor_14 rfl (lv_at hl 2 rfl) ?_
          refine lv_irem hx hb dX3_commonDivisor_15 (nI_ne0 (by omega) (by omega)) ?_
          refine lv_if_ne (tgt := 21) hx hb dX3_commonDivisor_16 (by decide) (fun c_16_4 => ?_) (fun c_16_4 => ?_)
          · skip
            rw [if_neg c_16_4] at hw
            refine lv_iinc (v := (nI (n + 1))) (lv' := [(2, .int (nI (n + 1))), (0, .int x0), (1, .int x1)]) hx hb dX3_commonDivisor_21 hl (k := 2) rfl (pk_m1 (n + 1)) (by decide) rfl (fun ls hl => ?_)
            refine lv_goto (tgt := 2) hx hb dX3_commonDivisor_24 (by decide) ?_
            exact ih ls (by omega) (lv_sub hl [1, 2, 0] rfl) hw
          · skip
            rw [if_pos c_16_4] at hw
            refine lv_iload_n hx hb dX3_commonDivisor_19 rfl (lv_at hl 2 rfl) ?_
            exact W.iret (v := nI (n + 1 + 1)) hx hb hr (fun t ht hW => ⟨_, rfl, hw.symm.trans hR, ht⟩) (fun _ h => by cases h) dX3_commonDivisor_20
  exact loop d ls (Nat.le_refl d) (by rw [← hd]; exact lv_sub hl [1, 2, 0] rfl) (by rw [cd_n hd hd1] at hw; exact hw)
