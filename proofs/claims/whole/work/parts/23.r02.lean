set_option maxHeartbeats 4000000 in
set_option maxRecDepth 100000 in
theorem m_X4_isDue (l : Launch) (dC : Nat → ClassId) (dI : Nat → Nat → Nat) (cI cZ : ClassId) (a : Nat → Nat) (σ : St) (x1 : Int32) (x2 : Int32) (hiv : IVr σ) (h1 : vp_in x1 40) (h2 : vp_in x2 3) : Met l yX4_isDue wsX4_isDue ({ frames := 0, cells := 0, slots := 0, locals := 0 }) (pRr dC dI cI cZ a σ [.ref (a 0), .int x1, .int x2]) (vp_Si (fun r => r = rf_isDue σ x1 x2)) 0 0 (fun _ => False) := by
  refine Met.ofW (cc := cX4_isDue) (maxL := 5) (ret := (some .boolean)) (by decide) rfl ?_
  intro p e s m args below meth c s₁ B hml hv
  obtain ⟨rfl, hP, hK⟩ := hv
  have hx := B.exec
  have hb := B.bytes
  have hr := B.returns
  have hts := atoms_spec (ws := wsX4_isDue) B.pre
  have hown : s.vm.findClass RX4 = some m.cls := findClass_of_methodNamed B.named
  have hlocks := B.notSynchronized
  have hl := lv_entry ([.ref (a 0), .int x1, .int x2]) (n := 5) (Nat.le_of_ble_eq_true rfl)
  rw [lg_entry_eq]
  generalize (lg_sl ([.ref (a 0), .int x1, .int x2]) ++ List.replicate (5 - (lg_sl ([.ref (a 0), .int x1, .int x2])).length) Slot.unset).toArray = ls at hl ⊢
  have hl : lv_has ls 5 [(0, .ref (a 0)), (1, .int x1), (2, .int x2)] := hl
  obtain ⟨R, hR⟩ : ∃ z, z = rf_isDue σ x1 x2 := ⟨_, rfl⟩
  have hw := hR
  unfold rf_isDue at hw
  refine lv_iconst (v := 3) hx hb dX4_isDue_0 (by decide) ?_
  refine lv_aload_n hx hb dX4_isDue_1 rfl (lv_at hl 0 rfl) ?_
  refine va_get (D := (dC, dI)) (ci := 4) (v := .ref (a 8)) (C := RX4) (T := TX4) (N := 23) hx hb hts (iwX4 _) hown hK hP 0 rfl rfl 8 (by decide) (hts _ (kc k_579)) (fun _ h9 => h9) rfl dX4_isDue_2 ?_
  refine lv_iload_n hx hb dX4_isDue_5 rfl (lv_at hl 1 rfl) ?_
  refine va_iald (D := (dC, dI)) (f := σ 8) hx hb hK hP 6 0 rfl rfl (i := x1) h1 dX4_isDue_6 ?_
  refine lv_imul hx hb dX4_isDue_7 ?_
  refine lv_iload_n hx hb dX4_isDue_8 rfl (lv_at hl 2 rfl) ?_
  refine lv_iadd hx hb dX4_isDue_9 ?_
  refine lv_istore_n (lv' := [(3, .int (((3 : Int32) * (σ 8 x1.toNatClampNeg)) + x2)), (0, .ref (a 0)), (1, .int x1), (2, .int x2)]) hx hb dX4_isDue_10 rfl hl (by decide) rfl (fun ls hl => ?_)
  refine lv_aload_n hx hb dX4_isDue_11 rfl (lv_at hl 1 rfl) ?_
  refine va_get (D := (dC, dI)) (ci := 4) (v := .ref (a 3)) (C := RX4) (T := TX4) (N := 23) hx hb hts (iwX4 _) hown hK hP 0 rfl rfl 3 (by decide) (hts _ (kc k_574)) (fun _ h9 => h9) rfl dX4_isDue_12 ?_
  refine lv_iload_n hx hb dX4_isDue_15 rfl (lv_at hl 0 rfl) ?_
  refine va_iald (D := (dC, dI)) (f := σ 3) hx hb hK hP 2 0 rfl rfl (i := ((3 : Int32) * (σ 8 x1.toNatClampNeg)) + x2) (in_3m (n := 5) (ir_k hiv h1) h2 (by decide) (by decide)) dX4_isDue_16 ?_
  obtain ⟨b_1, hb_1⟩ : ∃ z : Int32, z = (if (σ 3 (((3 : Int32) * (σ 8 x1.toNatClampNeg)) + x2).toNatClampNeg) ≤ 0 then (0 : Int32) else (if ((σ 0 1) - (σ 16 (((3 : Int32) * x1) + x2).toNatClampNeg)) < (σ 3 (((3 : Int32) * (σ 8 x1.toNatClampNeg)) + x2).toNatClampNeg) then (0 : Int32) else (1 : Int32))) := ⟨_, rfl⟩
  replace hw : R = (if b_1 = 0 then (if (σ 4 (((3 : Int32) * (σ 8 x1.toNatClampNeg)) + x2).toNatClampNeg) ≤ 0 then (0 : Int32) else (if (σ 17 (((3 : Int32) * x1) + x2).toNatClampNeg) < (σ 4 (((3 : Int32) * (σ 8 x1.toNatClampNeg)) + x2).toNatClampNeg) then (0 : Int32) else (1 : Int32))) else (1 : Int32)) := by subst hb_1; exact hw
  have J_1 : ∀ (v9 : Int32) (ls : Array Slot), b_1 = v9 → lv_has ls 5 [(0, .ref (a 0)), (1, .int x1), (2, .int x2), (3, .int (((3 : Int32) * (σ 8 x1.toNatClampNeg)) + x2))] → W p l e (headSpec wsX4_isDue ({ frames := 0, cells := 0, slots := 0, locals := 0 })).room s m [.ref (a 0), .int x1, .int x2].toArray below meth c s.heap [] 0 0 (MQ below (vp_Si (fun r => r = rf_isDue σ x1 x2)) [.ref (a 0), .int x1, .int x2].toArray s 0 0 (fun _ => False)) (F0 m 49 ls [.int v9]) := by
    intro v9 ls hv9 hl
    subst hv9
    refine lv_istore (lv' := [(4, .int b_1), (0, .ref (a 0)), (1, .int x1), (2, .int x2), (3, .int (((3 : Int32) * (σ 8 x1.toNatClampNeg)) + x2))]) hx hb dX4_isDue_49 hl (by decide) rfl (fun ls hl => ?_)
    refine lv_iload hx hb dX4_isDue_51 (lv_at hl 0 rfl) ?_
    refine lv_if_ne (tgt := 84) hx hb dX4_isDue_53 (by decide) (fun c_53_2 => ?_) (fun c_53_2 => ?_)
    · skip
      rw [if_neg c_53_2] at hw
      refine lv_iconst (v := 1) hx hb dX4_isDue_84 (by decide) ?_
      refine lv_goto (tgt := 89) hx hb dX4_isDue_85 (by decide) ?_
      exact W.zret (v := (1 : Int32)) (ty := .boolean) hx hb hr (by decide) (fun t ht hW => ⟨_, rfl, hw.symm.trans hR, ht⟩) (fun _ h => by cases h) dX4_isDue_89
    · skip
      rw [if_pos c_53_2] at hw
      refine lv_aload_n hx hb dX4_isDue_56 rfl (lv_at hl 1 rfl) ?_
      refine va_get (D := (dC, dI)) (ci := 4) (v := .ref (a 4)) (C := RX4) (T := TX4) (N := 23) hx hb hts (iwX4 _) hown hK hP 0 rfl rfl 4 (by decide) (hts _ (kc k_575)) (fun _ h9 => h9) rfl dX4_isDue_57 ?_
      refine lv_iload_n hx hb dX4_isDue_60 rfl (lv_at hl 4 rfl) ?_
      refine va_iald (D := (dC, dI)) (f := σ 4) hx hb hK hP 3 0 rfl rfl (i := ((3 : Int32) * (σ 8 x1.toNatClampNeg)) + x2) (in_3m (n := 5) (ir_k hiv h1) h2 (by decide) (by decide)) dX4_isDue_61 ?_
      refine lv_if_le (tgt := 88) hx hb dX4_isDue_62 (by decide) (fun c_62_3 => ?_) (fun c_62_3 => ?_)
      · skip
        rw [if_pos c_62_3] at hw
        refine lv_iconst (v := 0) hx hb dX4_isDue_88 (by decide) ?_
        exact W.zret (v := (0 : Int32)) (ty := .boolean) hx hb hr (by decide) (fun t ht hW => ⟨_, rfl, hw.symm.trans hR, ht⟩) (fun _ h => by cases h) dX4_isDue_89
      · skip
        rw [if_neg c_62_3] at hw
        refine lv_aload_n hx hb dX4_isDue_65 rfl (lv_at hl 1 rfl) ?_
        refine va_get (D := (dC, dI)) (ci := 4) (v := .ref (a 17)) (C := RX4) (T := TX4) (N := 23) hx hb hts (iwX4 _) hown hK hP 0 rfl rfl 17 (by decide) (hts _ (kc k_588)) (fun _ h9 => h9) rfl dX4_isDue_66 ?_
        refine lv_iconst (v := 3) hx hb dX4_isDue_69 (by decide) ?_
        refine lv_iload_n hx hb dX4_isDue_70 rfl (lv_at hl 2 rfl) ?_
        refine lv_imul hx hb dX4_isDue_71 ?_
        refine lv_iload_n hx hb dX4_isDue_72 rfl (lv_at hl 3 rfl) ?_
        refine lv_iadd hx hb dX4_isDue_73 ?_
        refine va_iald (D := (dC, dI)) (f := σ 17) hx hb hK hP 15 0 rfl rfl (i := ((3 : Int32) * x1) + x2) (in_3m (n := 40) h1 h2 (by decide) (by decide)) dX4_isDue_74 ?_
        refine lv_aload_n hx hb dX4_isDue_75 rfl (lv_at hl 1 rfl) ?_
        refine va_get (D := (dC, dI)) (ci := 4) (v := .ref (a 4)) (C := RX4) (T := TX4) (N := 23) hx hb hts (iwX4 _) hown hK hP 0 rfl rfl 4 (by decide) (hts _ (kc k_575)) (fun _ h9 => h9) rfl dX4_isDue_76 ?_
        refine lv_iload_n hx hb dX4_isDue_79 rfl (lv_at hl 4 rfl) ?_
        refine va_iald (D := (dC, dI)) (f := σ 4) hx hb hK hP 3 0 rfl rfl (i := ((3 : Int32) * (σ 8 x1.toNatClampNeg)) + x2) (in_3m (n := 5) (ir_k hiv h1) h2 (by decide) (by decide)) dX4_isDue_80 ?_
        refine lv_icmp_lt (tgt := 88) hx hb dX4_isDue_81 (by decide) (fun c_81_4 => ?_) (fun c_81_4 => ?_)
        · skip
          rw [if_pos c_81_4] at hw
          refine lv_iconst (v := 0) hx hb dX4_isDue_88 (by decide) ?_
          exact W.zret (v := (0 : Int32)) (ty := .boolean) hx hb hr (by decide) (fun t ht hW => ⟨_, rfl, hw.symm.trans hR, ht⟩) (fun _ h => by cases h) dX4_isDue_89
        · skip
          rw [if_neg c_81_4] at hw
          refine lv_iconst (v := 1) hx hb dX4_isDue_84 (by decide) ?_
          refine lv_goto (tgt := 89) hx hb dX4_isDue_85 (by decide) ?_
          exact W.zret (v := (1 : Int32)) (ty := .boolean) hx hb hr (by decide) (fun t ht hW => ⟨_, rfl, hw.symm.trans hR, ht⟩) (fun _ h => by cases h) dX4_isDue_89
  have hq_1 := hb_1
  refine lv_if_le (tgt := 48) hx hb dX4_isDue_17 (by decide) (fun c_17_5 => ?_) (fun c_17_5 => ?_)
  · skip
    rw [if_pos c_17_5] at hq_1
    refine lv_iconst (v := 0) hx hb dX4_isDue_48 (by decide) ?_
    exact J_1 _ ls hq_1 (lv_sub hl [1, 2, 3, 0] rfl)
  · skip
    rw [if_neg c_17_5] at hq_1
    refine lv_aload_n hx hb dX4_isDue_20 rfl (lv_at hl 1 rfl) ?_
    refine va_get (D := (dC, dI)) (ci := 4) (v := .int (σ 0 1)) (C := RX4) (T := TX4) (N := 23) hx hb hts (iwX4 _) hown hK hP 0 rfl rfl 1 (by decide) (hts _ (kc k_572)) (fun _ h9 => h9) rfl dX4_isDue_21 ?_
    refine lv_aload_n hx hb dX4_isDue_24 rfl (lv_at hl 1 rfl) ?_
    refine va_get (D := (dC, dI)) (ci := 4) (v := .ref (a 16)) (C := RX4) (T := TX4) (N := 23) hx hb hts (iwX4 _) hown hK hP 0 rfl rfl 16 (by decide) (hts _ (kc k_587)) (fun _ h9 => h9) rfl dX4_isDue_25 ?_
    refine lv_iconst (v := 3) hx hb dX4_isDue_28 (by decide) ?_
    refine lv_iload_n hx hb dX4_isDue_29 rfl (lv_at hl 2 rfl) ?_
    refine lv_imul hx hb dX4_isDue_30 ?_
    refine lv_iload_n hx hb dX4_isDue_31 rfl (lv_at hl 3 rfl) ?_
    refine lv_iadd hx hb dX4_isDue_32 ?_
    refine va_iald (D := (dC, dI)) (f := σ 16) hx hb hK hP 14 0 rfl rfl (i := ((3 : Int32) * x1) + x2) (in_3m (n := 40) h1 h2 (by decide) (by decide)) dX4_isDue_33 ?_
    refine lv_isub hx hb dX4_isDue_34 ?_
    refine lv_aload_n hx hb dX4_isDue_35 rfl (lv_at hl 1 rfl) ?_
    refine va_get (D := (dC, dI)) (ci := 4) (v := .ref (a 3)) (C := RX4) (T := TX4) (N := 23) hx hb hts (iwX4 _) hown hK hP 0 rfl rfl 3 (by decide) (hts _ (kc k_574)) (fun _ h9 => h9) rfl dX4_isDue_36 ?_
    refine lv_iload_n hx hb dX4_isDue_39 rfl (lv_at hl 0 rfl) ?_
    refine va_iald (D := (dC, dI)) (f := σ 3) hx hb hK hP 2 0 rfl rfl (i := ((3 : Int32) * (σ 8 x1.toNatClampNeg)) + x2) (in_3m (n := 5) (ir_k hiv h1) h2 (by decide) (by decide)) dX4_isDue_40 ?_
    refine lv_icmp_lt (tgt := 48) hx hb dX4_isDue_41 (by decide) (fun c_41_6 => ?_) (fun c_41_6 => ?_)
    · skip
      rw [if_pos c_41_6] at hq_1
      refine lv_iconst (v := 0) hx hb dX4_isDue_48 (by decide) ?_
      exact J_1 _ ls hq_1 (lv_sub hl [1, 2, 3, 0] rfl)
    · skip
      rw [if_neg c_41_6] at hq_1
      refine lv_iconst (v := 1) hx hb dX4_isDue_44 (by decide) ?_
      refine lv_goto (tgt := 49) hx hb dX4_isDue_45 (by decide) ?_
      exact J_1 _ ls hq_1 (lv_sub hl [1, 2, 3, 0] rfl)
set_option maxHeartbeats 4000000 in
set_option maxRecDepth 100000 in
theorem m_X4_stateOf (l : Launch) (dC : Nat → ClassId) (dI : Nat → Nat → Nat) (cI cZ : ClassId) (a : Nat → Nat) (σ : St) (x1 : Int32) (h1 : vp_in x1 40) : Met l yX4_stateOf wsX4_stateOf ({ frames := 0, cells := 0, slots := 0, locals := 0 }) (pRr dC dI cI cZ a σ [.ref (a 0), .int x1]) (vp_Si (fun r => r = rf_stateOf σ x1)) 0 0 (fun _ => False) := by
  refine Met.ofW (cc := cX4_stateOf) (maxL := 4) (ret := (some .int)) (by decide) rfl ?_
  intro p e s m args below meth c s₁ B hml hv
  obtain ⟨rfl, hP, hK⟩ := hv
  have hx := B.exec
  have hb := B.bytes
  have hr := B.returns
  have hts := atoms_spec (ws := wsX4_stateOf) B.pre
  have hown : s.vm.findClass RX4 = some m.cls := findClass_of_methodNamed B.named
  have hlocks := B.notSynchronized
  have hl := lv_entry ([.ref (a 0), .int x1]) (n := 4) (Nat.le_of_ble_eq_true rfl)
  rw [lg_entry_eq]
  generalize (lg_sl ([.ref (a 0), .int x1]) ++ List.replicate (4 - (lg_sl ([.ref (a 0), .int x1])).length) Slot.unset).toArray = ls at hl ⊢
  have hl : lv_has ls 4 [(0, .ref (a 0)), (1, .int x1)] := hl
  obtain ⟨R, hR⟩ : ∃ z, z = rf_stateOf σ x1 := ⟨_, rfl⟩
  have hw := hR
  unfold rf_stateOf at hw
  refine lv_aload_n hx hb dX4_stateOf_0 rfl (lv_at hl 0 rfl) ?_
  refine va_get (D := (dC, dI)) (ci := 4) (v := .ref (a 13)) (C := RX4) (T := TX4) (N := 23) hx hb hts (iwX4 _) hown hK hP 0 rfl rfl 13 (by decide) (hts _ (kc k_584)) (fun _ h9 => h9) rfl dX4_stateOf_1 ?_
  refine lv_iload_n hx hb dX4_stateOf_4 rfl (lv_at hl 1 rfl) ?_
  refine va_iald (D := (dC, dI)) (f := σ 13) hx hb hK hP 11 0 rfl rfl (i := x1) h1 dX4_stateOf_5 ?_
  refine lv_if_lt (tgt := 11) hx hb dX4_stateOf_6 (by decide) (fun c_6_1 => ?_) (fun c_6_1 => ?_)
  · skip
    rw [if_pos c_6_1] at hw
    refine lv_iconst (v := 0) hx hb dX4_stateOf_11 (by decide) ?_
    refine lv_istore_n (lv' := [(2, .int (0 : Int32)), (0, .ref (a 0)), (1, .int x1)]) hx hb dX4_stateOf_12 rfl hl (by decide) rfl (fun ls hl => ?_)
    refine lv_iconst (v := 0) hx hb dX4_stateOf_13 (by decide) ?_
    refine lv_istore_n (lv' := [(3, .int (0 : Int32)), (2, .int (0 : Int32)), (0, .ref (a 0)), (1, .int x1)]) hx hb dX4_stateOf_14 rfl hl (by decide) rfl (fun ls hl => ?_)
    have loop : ∀ (n k : Nat) (x2 : Int32) (ls : Array Slot), k + n = 3 → lv_has ls 4 [(0, .ref (a 0)), (1, .int x1), (2, .int x2), (3, .int (nI k))] → R = rf_stateOf_15 σ x1 n k x2 → W p l e (headSpec wsX4_stateOf ({ frames := 0, cells := 0, slots := 0, locals := 0 })).room s m [.ref (a 0), .int x1].toArray below meth c s.heap [] 0 0 (MQ below (vp_Si (fun r => r = rf_stateOf σ x1)) [.ref (a 0), .int x1].toArray s 0 0 (fun _ => False)) (F0 m 15 ls []) := by
      intro n
      induction n with
      | zero =>
        intro k x2 ls hkn hl hw
        rw [rf_stateOf_15_0] at hw
        refine lv_iload_n hx hb dX4_stateOf_15 rfl (lv_at hl 3 rfl) ?_
        refine lv_iconst (v := 3) hx hb dX4_stateOf_16 (by decide) ?_
        refine lv_icmp_ge (tgt := 55) hx hb dX4_stateOf_17 (by decide) (fun c_17_2 => ?_) (fun c_17_2 => ?_)
        · skip
          refine lv_iload_n hx hb dX4_stateOf_55 rfl (lv_at hl 2 rfl) ?_
          exact W.iret (v := x2) hx hb hr (fun t ht hW => ⟨_, rfl, hw.symm.trans hR, ht⟩) (fun _ h => by cases h) dX4_stateOf_56
        · skip
          exact absurd (lpE ht_3 hkn (by omega)) c_17_2
      | succ n ih =>
        intro k x2 ls hkn hl hw
        rw [rf_stateOf_15_s] at hw
        have hkf : vp_in (nI k) 3 := vp_in_nI (by omega) (by decide)
        refine lv_iload_n hx hb dX4_stateOf_15 rfl (lv_at hl 3 rfl) ?_
        refine lv_iconst (v := 3) hx hb dX4_stateOf_16 (by decide) ?_
        refine lv_icmp_ge (tgt := 55) hx hb dX4_stateOf_17 (by decide) (fun c_17_3 => ?_) (fun c_17_3 => ?_)
        · skip
          exact absurd c_17_3 (lpB ht_3 hkn (by omega))
        · skip
          refine lv_aload_n hx hb dX4_stateOf_20 rfl (lv_at hl 0 rfl) ?_
          refine va_get (D := (dC, dI)) (ci := 4) (v := .ref (a 18)) (C := RX4) (T := TX4) (N := 23) hx hb hts (iwX4 _) hown hK hP 0 rfl rfl 18 (by decide) (hts _ (kc k_589)) (fun _ h9 => h9) rfl dX4_stateOf_21 ?_
          refine lv_iconst (v := 3) hx hb dX4_stateOf_24 (by decide) ?_
          refine lv_iload_n hx hb dX4_stateOf_25 rfl (lv_at hl 1 rfl) ?_
          refine lv_imul hx hb dX4_stateOf_26 ?_
          refine lv_iload_n hx hb dX4_stateOf_27 rfl (lv_at hl 3 rfl) ?_
          refine lv_iadd hx hb dX4_stateOf_28 ?_
          refine va_iald (D := (dC, dI)) (f := σ 18) hx hb hK hP 16 0 rfl rfl (i := ((3 : Int32) * x1) + (nI k)) (in_3m (n := 40) h1 hkf (by decide) (by decide)) dX4_stateOf_29 ?_
          refine lv_iload_n hx hb dX4_stateOf_30 rfl (lv_at hl 2 rfl) ?_
          obtain ⟨b_4, hb_4⟩ : ∃ z : Int32, z = (if (σ 18 (((3 : Int32) * x1) + (nI k)).toNatClampNeg) ≤ x2 then x2 else (σ 18 (((3 : Int32) * x1) + (nI k)).toNatClampNeg)) := ⟨_, rfl⟩
          replace hw : R = (rf_stateOf_15 σ x1 n (k + 1) b_4) := by subst hb_4; exact hw
          have J_4 : ∀ (v9 : Int32) (ls : Array Slot), b_4 = v9 → lv_has ls 4 [(0, .ref (a 0)), (1, .int x1), (2, .int x2), (3, .int (nI k))] → W p l e (headSpec wsX4_stateOf ({ frames := 0, cells := 0, slots := 0, locals := 0 })).room s m [.ref (a 0), .int x1].toArray below meth c s.heap [] 0 0 (MQ below (vp_Si (fun r => r = rf_stateOf σ x1)) [.ref (a 0), .int x1].toArray s 0 0 (fun _ => False)) (F0 m 48 ls [.int v9]) := by
            intro v9 ls hv9 hl
            subst hv9
            refine lv_istore_n (lv' := [(2, .int b_4), (0, .ref (a 0)), (1, .int x1), (3, .int (nI k))]) hx hb dX4_stateOf_48 rfl hl (by decide) rfl (fun ls hl => ?_)
            refine lv_iinc (v := (nI (k + 1))) (lv' := [(3, .int (nI (k + 1))), (2, .int b_4), (0, .ref (a 0)), (1, .int x1)]) hx hb dX4_stateOf_49 hl (k := 3) rfl (nI_1 k) (by decide) rfl (fun ls hl => ?_)
            refine lv_goto (tgt := 15) hx hb dX4_stateOf_52 (by decide) ?_
            exact ih (k + 1) b_4 ls (by omega) (lv_sub hl [2, 3, 1, 0] rfl) hw
          have hq_4 := hb_4
          refine lv_icmp_le (tgt := 47) hx hb dX4_stateOf_31 (by decide) (fun c_31_5 => ?_) (fun c_31_5 => ?_)
          · skip
            rw [if_pos c_31_5] at hq_4
            refine lv_iload_n hx hb dX4_stateOf_47 rfl (lv_at hl 2 rfl) ?_
            exact J_4 _ ls hq_4 (lv_sub hl [0, 1, 2, 3] rfl)
          · skip
            rw [if_neg c_31_5] at hq_4
            refine lv_aload_n hx hb dX4_stateOf_34 rfl (lv_at hl 0 rfl) ?_
            refine va_get (D := (dC, dI)) (ci := 4) (v := .ref (a 18)) (C := RX4) (T := TX4) (N := 23) hx hb hts (iwX4 _) hown hK hP 0 rfl rfl 18 (by decide) (hts _ (kc k_589)) (fun _ h9 => h9) rfl dX4_stateOf_35 ?_
            refine lv_iconst (v := 3) hx hb dX4_stateOf_38 (by decide) ?_
            refine lv_iload_n hx hb dX4_stateOf_39 rfl (lv_at hl 1 rfl) ?_
            refine lv_imul hx hb dX4_stateOf_40 ?_
            refine lv_iload_n hx hb dX4_stateOf_41 rfl (lv_at hl 3 rfl) ?_
            refine lv_iadd hx hb dX4_stateOf_42 ?_
            refine va_iald (D := (dC, dI)) (f := σ 18) hx hb hK hP 16 0 rfl rfl (i := ((3 : Int32) * x1) + (nI k)) (in_3m (n := 40) h1 hkf (by decide) (by decide)) dX4_stateOf_43 ?_
            refine lv_goto (tgt := 48) hx hb dX4_stateOf_44 (by decide) ?_
            exact J_4 _ ls hq_4 (lv_sub hl [0, 1, 2, 3] rfl)
    exact loop 3 0 (0 : Int32) ls (Nat.zero_add _) (lv_sub hl [2, 3, 1, 0] rfl) hw
  · skip
    rw [if_neg c_6_1] at hw
    refine lv_iconst (v := 2) hx hb dX4_stateOf_9 (by decide) ?_
    exact W.iret (v := (2 : Int32)) hx hb hr (fun t ht hW => ⟨_, rfl, hw.symm.trans hR, ht⟩) (fun _ h => by cases h) dX4_stateOf_10
set_option maxHeartbeats 4000000 in
set_option maxRecDepth 100000 in
theorem m_X4_reason (l : Launch) (dC : Nat → ClassId) (dI : Nat → Nat → Nat) (cI cZ : ClassId) (a : Nat → Nat) (σ : St) (x1 : Int32) (hiv : IVr σ) (h1 : vp_in x1 40) : Met l yX4_reason wsX4_reason ({ frames := 1, cells := 0, slots := 0, locals := 24 }) (pRr dC dI cI cZ a σ [.ref (a 0), .int x1]) (vp_Si (fun r => r = rf_reason σ x1)) 0 0 (fun _ => False) := by
  refine Met.ofW (cc := cX4_reason) (maxL := 2) (ret := (some .int)) (by decide) rfl ?_
  intro p e s m args below meth c s₁ B hml hv
  obtain ⟨rfl, hP, hK⟩ := hv
  have hx := B.exec
  have hb := B.bytes
  have hr := B.returns
  have hts := atoms_spec (ws := wsX4_reason) B.pre
  have hown : s.vm.findClass RX4 = some m.cls := findClass_of_methodNamed B.named
  have hlocks := B.notSynchronized
  have hl := lv_entry ([.ref (a 0), .int x1]) (n := 2) (Nat.le_of_ble_eq_true rfl)
  rw [lg_entry_eq]
  generalize (lg_sl ([.ref (a 0), .int x1]) ++ List.replicate (2 - (lg_sl ([.ref (a 0), .int x1])).length) Slot.unset).toArray = ls at hl ⊢
  have hl : lv_has ls 2 [(0, .ref (a 0)), (1, .int x1)] := hl
  obtain ⟨R, hR⟩ : ∃ z, z = rf_reason σ x1 := ⟨_, rfl⟩
  have hw := hR
  unfold rf_reason at hw
  refine lv_aload_n hx hb dX4_reason_0 rfl (lv_at hl 0 rfl) ?_
  refine va_get (D := (dC, dI)) (ci := 4) (v := .ref (a 13)) (C := RX4) (T := TX4) (N := 23) hx hb hts (iwX4 _) hown hK hP 0 rfl rfl 13 (by decide) (hts _ (kc k_584)) (fun _ h9 => h9) rfl dX4_reason_1 ?_
  refine lv_iload_n hx hb dX4_reason_4 rfl (lv_at hl 1 rfl) ?_
  refine va_iald (D := (dC, dI)) (f := σ 13) hx hb hK hP 11 0 rfl rfl (i := x1) h1 dX4_reason_5 ?_
  refine lv_if_lt (tgt := 11) hx hb dX4_reason_6 (by decide) (fun c_6_1 => ?_) (fun c_6_1 => ?_)
  · skip
    rw [if_pos c_6_1] at hw
    refine lv_aload_n hx hb dX4_reason_11 rfl (lv_at hl 0 rfl) ?_
    refine va_get (D := (dC, dI)) (ci := 4) (v := .ref (a 19)) (C := RX4) (T := TX4) (N := 23) hx hb hts (iwX4 _) hown hK hP 0 rfl rfl 19 (by decide) (hts _ (kc k_590)) (fun _ h9 => h9) rfl dX4_reason_12 ?_
    refine lv_aload_n hx hb dX4_reason_15 rfl (lv_at hl 0 rfl) ?_
    refine va_get (D := (dC, dI)) (ci := 4) (v := .ref (a 10)) (C := RX4) (T := TX4) (N := 23) hx hb hts (iwX4 _) hown hK hP 0 rfl rfl 10 (by decide) (hts _ (kc k_581)) (fun _ h9 => h9) rfl dX4_reason_16 ?_
    refine lv_iload_n hx hb dX4_reason_19 rfl (lv_at hl 1 rfl) ?_
    refine va_iald (D := (dC, dI)) (f := σ 10) hx hb hK hP 8 0 rfl rfl (i := x1) h1 dX4_reason_20 ?_
    refine va_zald (D := (dC, dI)) (f := σ 19) hx hb hK hP 17 1 rfl rfl (i := σ 10 x1.toNatClampNeg) (ir_b hiv h1) dX4_reason_21 ?_
    refine lv_if_eq (tgt := 27) hx hb dX4_reason_22 (by decide) (fun c_22_2 => ?_) (fun c_22_2 => ?_)
    · skip
      rw [if_pos c_22_2] at hw
      refine lv_aload_n hx hb dX4_reason_27 rfl (lv_at hl 0 rfl) ?_
      refine va_get (D := (dC, dI)) (ci := 4) (v := .ref (a 2)) (C := RX4) (T := TX4) (N := 23) hx hb hts (iwX4 _) hown hK hP 0 rfl rfl 2 (by decide) (hts _ (kc k_573)) (fun _ h9 => h9) rfl dX4_reason_28 ?_
      refine lv_aload_n hx hb dX4_reason_31 rfl (lv_at hl 0 rfl) ?_
      refine va_get (D := (dC, dI)) (ci := 4) (v := .ref (a 8)) (C := RX4) (T := TX4) (N := 23) hx hb hts (iwX4 _) hown hK hP 0 rfl rfl 8 (by decide) (hts _ (kc k_579)) (fun _ h9 => h9) rfl dX4_reason_32 ?_
      refine lv_iload_n hx hb dX4_reason_35 rfl (lv_at hl 1 rfl) ?_
      refine va_iald (D := (dC, dI)) (f := σ 8) hx hb hK hP 6 0 rfl rfl (i := x1) h1 dX4_reason_36 ?_
      refine va_iald (D := (dC, dI)) (f := σ 2) hx hb hK hP 1 0 rfl rfl (i := σ 8 x1.toNatClampNeg) (ir_k hiv h1) dX4_reason_37 ?_
      refine lv_if_le (tgt := 68) hx hb dX4_reason_38 (by decide) (fun c_38_3 => ?_) (fun c_38_3 => ?_)
      · skip
        rw [if_pos c_38_3] at hw
        refine lv_aload_n hx hb dX4_reason_68 rfl (lv_at hl 0 rfl) ?_
        refine lv_iload_n hx hb dX4_reason_69 rfl (lv_at hl 1 rfl) ?_
        refine lv_iconst (v := 0) hx hb dX4_reason_70 (by decide) ?_
        refine vp_callSi (W.runV (As := [.int x1, .int (0 : Int32)]) (rest := []) ⟨hx, hb, hml, hown, hts⟩ (m_X4_isDue l dC dI cI cZ a σ x1 (0 : Int32) hiv h1 (vp_lit 0 (by decide))) (cwV 2 hts (gV k_699 k_701 k_14 k_24 k_702) rfl rfl rfl (by decide +kernel) ⟨Nat.le_of_ble_eq_true rfl, Nat.le_of_ble_eq_true rfl⟩) (pv_rr (q := (RX4, TX4, 23)) (q0 := 0) (ci := 4) hK hP rfl rfl) rfl rfl hl.1 rfl (lv_room (Nat.le_of_ble_eq_true rfl)) dX4_reason_71 ⟨Nat.le_of_ble_eq_true rfl, Nat.le_of_ble_eq_true rfl⟩) (fun r hrr => ?_)
        subst hrr
        refine lv_if_ne (tgt := 95) hx hb dX4_reason_74 (by decide) (fun c_74_4 => ?_) (fun c_74_4 => ?_)
        · skip
          rw [if_neg c_74_4] at hw
          refine lv_iconst (v := 4) hx hb dX4_reason_95 (by decide) ?_
          exact W.iret (v := (4 : Int32)) hx hb hr (fun t ht hW => ⟨_, rfl, hw.symm.trans hR, ht⟩) (fun _ h => by cases h) dX4_reason_96
        · skip
          rw [if_pos c_74_4] at hw
          refine lv_aload_n hx hb dX4_reason_77 rfl (lv_at hl 0 rfl) ?_
          refine lv_iload_n hx hb dX4_reason_78 rfl (lv_at hl 1 rfl) ?_
          refine lv_iconst (v := 1) hx hb dX4_reason_79 (by decide) ?_
          refine vp_callSi (W.runV (As := [.int x1, .int (1 : Int32)]) (rest := []) ⟨hx, hb, hml, hown, hts⟩ (m_X4_isDue l dC dI cI cZ a σ x1 (1 : Int32) hiv h1 (vp_lit 1 (by decide))) (cwV 2 hts (gV k_699 k_701 k_14 k_24 k_702) rfl rfl rfl (by decide +kernel) ⟨Nat.le_of_ble_eq_true rfl, Nat.le_of_ble_eq_true rfl⟩) (pv_rr (q := (RX4, TX4, 23)) (q0 := 0) (ci := 4) hK hP rfl rfl) rfl rfl hl.1 rfl (lv_room (Nat.le_of_ble_eq_true rfl)) dX4_reason_80 ⟨Nat.le_of_ble_eq_true rfl, Nat.le_of_ble_eq_true rfl⟩) (fun r hrr => ?_)
          subst hrr
          refine lv_if_ne (tgt := 95) hx hb dX4_reason_83 (by decide) (fun c_83_5 => ?_) (fun c_83_5 => ?_)
          · skip
            rw [if_neg c_83_5] at hw
            refine lv_iconst (v := 4) hx hb dX4_reason_95 (by decide) ?_
            exact W.iret (v := (4 : Int32)) hx hb hr (fun t ht hW => ⟨_, rfl, hw.symm.trans hR, ht⟩) (fun _ h => by cases h) dX4_reason_96
          · skip
            rw [if_pos c_83_5] at hw
            refine lv_aload_n hx hb dX4_reason_86 rfl (lv_at hl 0 rfl) ?_
            refine lv_iload_n hx hb dX4_reason_87 rfl (lv_at hl 1 rfl) ?_
            refine lv_iconst (v := 2) hx hb dX4_reason_88 (by decide) ?_
            refine vp_callSi (W.runV (As := [.int x1, .int (2 : Int32)]) (rest := []) ⟨hx, hb, hml, hown, hts⟩ (m_X4_isDue l dC dI cI cZ a σ x1 (2 : Int32) hiv h1 (vp_lit 2 (by decide))) (cwV 2 hts (gV k_699 k_701 k_14 k_24 k_702) rfl rfl rfl (by decide +kernel) ⟨Nat.le_of_ble_eq_true rfl, Nat.le_of_ble_eq_true rfl⟩) (pv_rr (q := (RX4, TX4, 23)) (q0 := 0) (ci := 4) hK hP rfl rfl) rfl rfl hl.1 rfl (lv_room (Nat.le_of_ble_eq_true rfl)) dX4_reason_89 ⟨Nat.le_of_ble_eq_true rfl, Nat.le_of_ble_eq_true rfl⟩) (fun r hrr => ?_)
            subst hrr
            refine lv_if_eq (tgt := 97) hx hb dX4_reason_92 (by decide) (fun c_92_6 => ?_) (fun c_92_6 => ?_)
            · skip
              rw [if_pos c_92_6] at hw
              refine lv_aload_n hx hb dX4_reason_97 rfl (lv_at hl 0 rfl) ?_
              refine lv_iload_n hx hb dX4_reason_98 rfl (lv_at hl 1 rfl) ?_
              refine vp_callSi (W.runV (As := [.int x1]) (rest := []) ⟨hx, hb, hml, hown, hts⟩ (m_X4_stateOf l dC dI cI cZ a σ x1 h1) (cwV 1 hts (gV k_703 k_705 k_15 k_24 k_706) rfl rfl rfl (by decide +kernel) ⟨Nat.le_of_ble_eq_true rfl, Nat.le_of_ble_eq_true rfl⟩) (pv_rr (q := (RX4, TX4, 23)) (q0 := 0) (ci := 4) hK hP rfl rfl) rfl rfl hl.1 rfl (lv_room (Nat.le_of_ble_eq_true rfl)) dX4_reason_99 ⟨Nat.le_of_ble_eq_true rfl, Nat.le_of_ble_eq_true rfl⟩) (fun r hrr => ?_)
              subst hrr
              refine lv_if_le (tgt := 107) hx hb dX4_reason_102 (by decide) (fun c_102_7 => ?_) (fun c_102_7 => ?_)
              · skip
                rw [if_pos c_102_7] at hw
                refine lv_aload_n hx hb dX4_reason_107 rfl (lv_at hl 0 rfl) ?_
                refine va_get (D := (dC, dI)) (ci := 4) (v := .ref (a 15)) (C := RX4) (T := TX4) (N := 23) hx hb hts (iwX4 _) hown hK hP 0 rfl rfl 15 (by decide) (hts _ (kc k_586)) (fun _ h9 => h9) rfl dX4_reason_108 ?_
                refine lv_iload_n hx hb dX4_reason_111 rfl (lv_at hl 1 rfl) ?_
                refine va_zald (D := (dC, dI)) (f := σ 15) hx hb hK hP 13 1 rfl rfl (i := x1) h1 dX4_reason_112 ?_
                refine lv_if_eq (tgt := 121) hx hb dX4_reason_113 (by decide) (fun c_113_8 => ?_) (fun c_113_8 => ?_)
                · skip
                  rw [if_pos c_113_8] at hw
                  refine lv_iconst (v := 0) hx hb dX4_reason_121 (by decide) ?_
                  exact W.iret (v := (0 : Int32)) hx hb hr (fun t ht hW => ⟨_, rfl, hw.symm.trans hR, ht⟩) (fun _ h => by cases h) dX4_reason_122
                · skip
                  rw [if_neg c_113_8] at hw
                  refine lv_bipush (v := 6) hx hb dX4_reason_116 (by decide) ?_
                  refine lv_goto (tgt := 122) hx hb dX4_reason_118 (by decide) ?_
                  exact W.iret (v := (6 : Int32)) hx hb hr (fun t ht hW => ⟨_, rfl, hw.symm.trans hR, ht⟩) (fun _ h => by cases h) dX4_reason_122
              · skip
                rw [if_neg c_102_7] at hw
                refine lv_iconst (v := 5) hx hb dX4_reason_105 (by decide) ?_
                exact W.iret (v := (5 : Int32)) hx hb hr (fun t ht hW => ⟨_, rfl, hw.symm.trans hR, ht⟩) (fun _ h => by cases h) dX4_reason_106
            · skip
              rw [if_neg c_92_6] at hw
              refine lv_iconst (v := 4) hx hb dX4_reason_95 (by decide) ?_
              exact W.iret (v := (4 : Int32)) hx hb hr (fun t ht hW => ⟨_, rfl, hw.symm.trans hR, ht⟩) (fun _ h => by cases h) dX4_reason_96
      · skip
        rw [if_neg c_38_3] at hw
        refine lv_aload_n hx hb dX4_reason_41 rfl (lv_at hl 0 rfl) ?_
        refine va_get (D := (dC, dI)) (ci := 4) (v := .int (σ 0 1)) (C := RX4) (T := TX4) (N := 23) hx hb hts (iwX4 _) hown hK hP 0 rfl rfl 1 (by decide) (hts _ (kc k_572)) (fun _ h9 => h9) rfl dX4_reason_42 ?_
        refine lv_aload_n hx hb dX4_reason_45 rfl (lv_at hl 0 rfl) ?_
        refine va_get (D := (dC, dI)) (ci := 4) (v := .ref (a 12)) (C := RX4) (T := TX4) (N := 23) hx hb hts (iwX4 _) hown hK hP 0 rfl rfl 12 (by decide) (hts _ (kc k_583)) (fun _ h9 => h9) rfl dX4_reason_46 ?_
        refine lv_iload_n hx hb dX4_reason_49 rfl (lv_at hl 1 rfl) ?_
        refine va_iald (D := (dC, dI)) (f := σ 12) hx hb hK hP 10 0 rfl rfl (i := x1) h1 dX4_reason_50 ?_
        refine lv_isub hx hb dX4_reason_51 ?_
        refine lv_aload_n hx hb dX4_reason_52 rfl (lv_at hl 0 rfl) ?_
        refine va_get (D := (dC, dI)) (ci := 4) (v := .ref (a 2)) (C := RX4) (T := TX4) (N := 23) hx hb hts (iwX4 _) hown hK hP 0 rfl rfl 2 (by decide) (hts _ (kc k_573)) (fun _ h9 => h9) rfl dX4_reason_53 ?_
        refine lv_aload_n hx hb dX4_reason_56 rfl (lv_at hl 0 rfl) ?_
        refine va_get (D := (dC, dI)) (ci := 4) (v := .ref (a 8)) (C := RX4) (T := TX4) (N := 23) hx hb hts (iwX4 _) hown hK hP 0 rfl rfl 8 (by decide) (hts _ (kc k_579)) (fun _ h9 => h9) rfl dX4_reason_57 ?_
        refine lv_iload_n hx hb dX4_reason_60 rfl (lv_at hl 1 rfl) ?_
        refine va_iald (D := (dC, dI)) (f := σ 8) hx hb hK hP 6 0 rfl rfl (i := x1) h1 dX4_reason_61 ?_
        refine va_iald (D := (dC, dI)) (f := σ 2) hx hb hK hP 1 0 rfl rfl (i := σ 8 x1.toNatClampNeg) (ir_k hiv h1) dX4_reason_62 ?_
        refine lv_icmp_lt (tgt := 68) hx hb dX4_reason_63 (by decide) (fun c_63_9 => ?_) (fun c_63_9 => ?_)
        · skip
          rw [if_pos c_63_9] at hw
          refine lv_aload_n hx hb dX4_reason_68 rfl (lv_at hl 0 rfl) ?_
          refine lv_iload_n hx hb dX4_reason_69 rfl (lv_at hl 1 rfl) ?_
          refine lv_iconst (v := 0) hx hb dX4_reason_70 (by decide) ?_
          refine vp_callSi (W.runV (As := [.int x1, .int (0 : Int32)]) (rest := []) ⟨hx, hb, hml, hown, hts⟩ (m_X4_isDue l dC dI cI cZ a σ x1 (0 : Int32) hiv h1 (vp_lit 0 (by decide))) (cwV 2 hts (gV k_699 k_701 k_14 k_24 k_702) rfl rfl rfl (by decide +kernel) ⟨Nat.le_of_ble_eq_true rfl, Nat.le_of_ble_eq_true rfl⟩) (pv_rr (q := (RX4, TX4, 23)) (q0 := 0) (ci := 4) hK hP rfl rfl) rfl rfl hl.1 rfl (lv_room (Nat.le_of_ble_eq_true rfl)) dX4_reason_71 ⟨Nat.le_of_ble_eq_true rfl, Nat.le_of_ble_eq_true rfl⟩) (fun r hrr => ?_)
          subst hrr
          refine lv_if_ne (tgt := 95) hx hb dX4_reason_74 (by decide) (fun c_74_10 => ?_) (fun c_74_10 => ?_)
          · skip
            rw [if_neg c_74_10] at hw
            refine lv_iconst (v := 4) hx hb dX4_reason_95 (by decide) ?_
            exact W.iret (v := (4 : Int32)) hx hb hr (fun t ht hW => ⟨_, rfl, hw.symm.trans hR, ht⟩) (fun _ h => by cases h) dX4_reason_96
          · skip
            rw [if_pos c_74_10] at hw
            refine lv_aload_n hx hb dX4_reason_77 rfl (lv_at hl 0 rfl) ?_
            refine lv_iload_n hx hb dX4_reason_78 rfl (lv_at hl 1 rfl) ?_
            refine lv_iconst (v := 1) hx hb dX4_reason_79 (by decide) ?_
            refine vp_callSi (W.runV (As := [.int x1, .int (1 : Int32)]) (rest := []) ⟨hx, hb, hml, hown, hts⟩ (m_X4_isDue l dC dI cI cZ a σ x1 (1 : Int32) hiv h1 (vp_lit 1 (by decide))) (cwV 2 hts (gV k_699 k_701 k_14 k_24 k_702) rfl rfl rfl (by decide +kernel) ⟨Nat.le_of_ble_eq_true rfl, Nat.le_of_ble_eq_true rfl⟩) (pv_rr (q := (RX4, TX4, 23)) (q0 := 0) (ci := 4) hK hP rfl rfl) rfl rfl hl.1 rfl (lv_room (Nat.le_of_ble_eq_true rfl)) dX4_reason_80 ⟨Nat.le_of_ble_eq_true rfl, Nat.le_of_ble_eq_true rfl⟩) (fun r hrr => ?_)
            subst hrr
            refine lv_if_ne (tgt := 95) hx hb dX4_reason_83 (by decide) (fun c_83_11 => ?_) (fun c_83_11 => ?_)
            · skip
              rw [if_neg c_83_11] at hw
              refine lv_iconst (v := 4) hx hb dX4_reason_95 (by decide) ?_
              exact W.iret (v := (4 : Int32)) hx hb hr (fun t ht hW => ⟨_, rfl, hw.symm.trans hR, ht⟩) (fun _ h => by cases h) dX4_reason_96
            · skip
              rw [if_pos c_83_11] at hw
              refine lv_aload_n hx hb dX4_reason_86 rfl (lv_at hl 0 rfl) ?_
              refine lv_iload_n hx hb dX4_reason_87 rfl (lv_at hl 1 rfl) ?_
              refine lv_iconst (v := 2) hx hb dX4_reason_88 (by decide) ?_
              refine vp_callSi (W.runV (As := [.int x1, .int (2 : Int32)]) (rest := []) ⟨hx, hb, hml, hown, hts⟩ (m_X4_isDue l dC dI cI cZ a σ x1 (2 : Int32) hiv h1 (vp_lit 2 (by decide))) (cwV 2 hts (gV k_699 k_701 k_14 k_24 k_702) rfl rfl rfl (by decide +kernel) ⟨Nat.le_of_ble_eq_true rfl, Nat.le_of_ble_eq_true rfl⟩) (pv_rr (q := (RX4, TX4, 23)) (q0 := 0) (ci := 4) hK hP rfl rfl) rfl rfl hl.1 rfl (lv_room (Nat.le_of_ble_eq_true rfl)) dX4_reason_89 ⟨Nat.le_of_ble_eq_true rfl, Nat.le_of_ble_eq_true rfl⟩) (fun r hrr => ?_)
              subst hrr
              refine lv_if_eq (tgt := 97) hx hb dX4_reason_92 (by decide) (fun c_92_12 => ?_) (fun c_92_12 => ?_)
              · skip
                rw [if_pos c_92_12] at hw
                refine lv_aload_n hx hb dX4_reason_97 rfl (lv_at hl 0 rfl) ?_
                refine lv_iload_n hx hb dX4_reason_98 rfl (lv_at hl 1 rfl) ?_
                refine vp_callSi (W.runV (As := [.int x1]) (rest := []) ⟨hx, hb, hml, hown, hts⟩ (m_X4_stateOf l dC dI cI cZ a σ x1 h1) (cwV 1 hts (gV k_703 k_705 k_15 k_24 k_706) rfl rfl rfl (by decide +kernel) ⟨Nat.le_of_ble_eq_true rfl, Nat.le_of_ble_eq_true rfl⟩) (pv_rr (q := (RX4, TX4, 23)) (q0 := 0) (ci := 4) hK hP rfl rfl) rfl rfl hl.1 rfl (lv_room (Nat.le_of_ble_eq_true rfl)) dX4_reason_99 ⟨Nat.le_of_ble_eq_true rfl, Nat.le_of_ble_eq_true rfl⟩) (fun r hrr => ?_)
                subst hrr
                refine lv_if_le (tgt := 107) hx hb dX4_reason_102 (by decide) (fun c_102_13 => ?_) (fun c_102_13 => ?_)
                · skip
                  rw [if_pos c_102_13] at hw
                  refine lv_aload_n hx hb dX4_reason_107 rfl (lv_at hl 0 rfl) ?_
                  refine va_get (D := (dC, dI)) (ci := 4) (v := .ref (a 15)) (C := RX4) (T := TX4) (N := 23) hx hb hts (iwX4 _) hown hK hP 0 rfl rfl 15 (by decide) (hts _ (kc k_586)) (fun _ h9 => h9) rfl dX4_reason_108 ?_
                  refine lv_iload_n hx hb dX4_reason_111 rfl (lv_at hl 1 rfl) ?_
                  refine va_zald (D := (dC, dI)) (f := σ 15) hx hb hK hP 13 1 rfl rfl (i := x1) h1 dX4_reason_112 ?_
                  refine lv_if_eq (tgt := 121) hx hb dX4_reason_113 (by decide) (fun c_113_14 => ?_) (fun c_113_14 => ?_)
                  · skip
                    rw [if_pos c_113_14] at hw
                    refine lv_iconst (v := 0) hx hb dX4_reason_121 (by decide) ?_
                    exact W.iret (v := (0 : Int32)) hx hb hr (fun t ht hW => ⟨_, rfl, hw.symm.trans hR, ht⟩) (fun _ h => by cases h) dX4_reason_122
                  · skip
                    rw [if_neg c_113_14] at hw
                    refine lv_bipush (v := 6) hx hb dX4_reason_116 (by decide) ?_
                    refine lv_goto (tgt := 122) hx hb dX4_reason_118 (by decide) ?_
                    exact W.iret (v := (6 : Int32)) hx hb hr (fun t ht hW => ⟨_, rfl, hw.symm.trans hR, ht⟩) (fun _ h => by cases h) dX4_reason_122
                · skip
                  rw [if_neg c_102_13] at hw
                  refine lv_iconst (v := 5) hx hb dX4_reason_105 (by decide) ?_
                  exact W.iret (v := (5 : Int32)) hx hb hr (fun t ht hW => ⟨_, rfl, hw.symm.trans hR, ht⟩) (fun _ h => by cases h) dX4_reason_106
              · skip
                rw [if_neg c_92_12] at hw
                refine lv_iconst (v := 4) hx hb dX4_reason_95 (by decide) ?_
                exact W.iret (v := (4 : Int32)) hx hb hr (fun t ht hW => ⟨_, rfl, hw.symm.trans hR, ht⟩) (fun _ h => by cases h) dX4_reason_96
        · skip
          rw [if_neg c_63_9] at hw
          refine lv_iconst (v := 3) hx hb dX4_reason_66 (by decide) ?_
          exact W.iret (v := (3 : Int32)) hx hb hr (fun t ht hW => ⟨_, rfl, hw.symm.trans hR, ht⟩) (fun _ h => by cases h) dX4_reason_67
    · skip
      rw [if_neg c_22_2] at hw
      refine lv_iconst (v := 2) hx hb dX4_reason_25 (by decide) ?_
      exact W.iret (v := (2 : Int32)) hx hb hr (fun t ht hW => ⟨_, rfl, hw.symm.trans hR, ht⟩) (fun _ h => by cases h) dX4_reason_26
  · skip
    rw [if_neg c_6_1] at hw
    refine lv_iconst (v := 1) hx hb dX4_reason_9 (by decide) ?_
    exact W.iret (v := (1 : Int32)) hx hb hr (fun t ht hW => ⟨_, rfl, hw.symm.trans hR, ht⟩) (fun _ h => by cases h) dX4_reason_10
set_option maxHeartbeats 4000000 in
set_option maxRecDepth 100000 in
theorem m_X4_endOf (l : Launch) (dC : Nat → ClassId) (dI : Nat → Nat → Nat) (cI cZ : ClassId) (a : Nat → Nat) (σ : St) (x1 : Int32) (hiv : IVr σ) (h1 : vp_in x1 40) : Met l yX4_endOf wsX4_endOf ({ frames := 0, cells := 0, slots := 0, locals := 0 }) (pRr dC dI cI cZ a σ [.ref (a 0), .int x1]) (vp_Si (fun r => r = rf_endOf σ x1)) 0 0 (fun _ => False) := by
  refine Met.ofW (cc := cX4_endOf) (maxL := 6) (ret := (some .int)) (by decide) rfl ?_
  intro p e s m args below meth c s₁ B hml hv
  obtain ⟨rfl, hP, hK⟩ := hv
  have hx := B.exec
  have hb := B.bytes
  have hr := B.returns
  have hts := atoms_spec (ws := wsX4_endOf) B.pre
  have hown : s.vm.findClass RX4 = some m.cls := findClass_of_methodNamed B.named
  have hlocks := B.notSynchronized
  have hl := lv_entry ([.ref (a 0), .int x1]) (n := 6) (Nat.le_of_ble_eq_true rfl)
  rw [lg_entry_eq]
  generalize (lg_sl ([.ref (a 0), .int x1]) ++ List.replicate (6 - (lg_sl ([.ref (a 0), .int x1])).length) Slot.unset).toArray = ls at hl ⊢
  have hl : lv_has ls 6 [(0, .ref (a 0)), (1, .int x1)] := hl
  obtain ⟨R, hR⟩ : ∃ z, z = rf_endOf σ x1 := ⟨_, rfl⟩
  have hw := hR
  unfold rf_endOf at hw
  refine lv_aload_n hx hb dX4_endOf_0 rfl (lv_at hl 0 rfl) ?_
  refine va_get (D := (dC, dI)) (ci := 4) (v := .ref (a 13)) (C := RX4) (T := TX4) (N := 23) hx hb hts (iwX4 _) hown hK hP 0 rfl rfl 13 (by decide) (hts _ (kc k_584)) (fun _ h9 => h9) rfl dX4_endOf_1 ?_
  refine lv_iload_n hx hb dX4_endOf_4 rfl (lv_at hl 1 rfl) ?_
  refine va_iald (D := (dC, dI)) (f := σ 13) hx hb hK hP 11 0 rfl rfl (i := x1) h1 dX4_endOf_5 ?_
  refine lv_if_lt (tgt := 12) hx hb dX4_endOf_6 (by decide) (fun c_6_1 => ?_) (fun c_6_1 => ?_)
  · skip
    rw [if_pos c_6_1] at hw
    refine lv_aload_n hx hb dX4_endOf_12 rfl (lv_at hl 0 rfl) ?_
    refine va_get (D := (dC, dI)) (ci := 4) (v := .ref (a 2)) (C := RX4) (T := TX4) (N := 23) hx hb hts (iwX4 _) hown hK hP 0 rfl rfl 2 (by decide) (hts _ (kc k_573)) (fun _ h9 => h9) rfl dX4_endOf_13 ?_
    refine lv_aload_n hx hb dX4_endOf_16 rfl (lv_at hl 0 rfl) ?_
    refine va_get (D := (dC, dI)) (ci := 4) (v := .ref (a 8)) (C := RX4) (T := TX4) (N := 23) hx hb hts (iwX4 _) hown hK hP 0 rfl rfl 8 (by decide) (hts _ (kc k_579)) (fun _ h9 => h9) rfl dX4_endOf_17 ?_
    refine lv_iload_n hx hb dX4_endOf_20 rfl (lv_at hl 1 rfl) ?_
    refine va_iald (D := (dC, dI)) (f := σ 8) hx hb hK hP 6 0 rfl rfl (i := x1) h1 dX4_endOf_21 ?_
    refine va_iald (D := (dC, dI)) (f := σ 2) hx hb hK hP 1 0 rfl rfl (i := σ 8 x1.toNatClampNeg) (ir_k hiv h1) dX4_endOf_22 ?_
    obtain ⟨b_2, hb_2⟩ : ∃ z : Int32, z = (if (σ 2 (σ 8 x1.toNatClampNeg).toNatClampNeg) ≤ 0 then (1000000 : Int32) else ((σ 12 x1.toNatClampNeg) + (σ 2 (σ 8 x1.toNatClampNeg).toNatClampNeg))) := ⟨_, rfl⟩
    replace hw : R = (rf_endOf_52 σ x1 3 0 b_2) := by subst hb_2; exact hw
    have J_2 : ∀ (v9 : Int32) (ls : Array Slot), b_2 = v9 → lv_has ls 6 [(0, .ref (a 0)), (1, .int x1)] → W p l e (headSpec wsX4_endOf ({ frames := 0, cells := 0, slots := 0, locals := 0 })).room s m [.ref (a 0), .int x1].toArray below meth c s.heap [] 0 0 (MQ below (vp_Si (fun r => r = rf_endOf σ x1)) [.ref (a 0), .int x1].toArray s 0 0 (fun _ => False)) (F0 m 49 ls [.int v9]) := by
      intro v9 ls hv9 hl
      subst hv9
      refine lv_istore_n (lv' := [(2, .int b_2), (0, .ref (a 0)), (1, .int x1)]) hx hb dX4_endOf_49 rfl hl (by decide) rfl (fun ls hl => ?_)
      refine lv_iconst (v := 0) hx hb dX4_endOf_50 (by decide) ?_
      refine lv_istore_n (lv' := [(3, .int (0 : Int32)), (2, .int b_2), (0, .ref (a 0)), (1, .int x1)]) hx hb dX4_endOf_51 rfl hl (by decide) rfl (fun ls hl => ?_)
      have loop : ∀ (n k : Nat) (x2 : Int32) (ls : Array Slot), k + n = 3 → lv_has ls 6 [(0, .ref (a 0)), (1, .int x1), (2, .int x2), (3, .int (nI k))] → R = rf_endOf_52 σ x1 n k x2 → W p l e (headSpec wsX4_endOf ({ frames := 0, cells := 0, slots := 0, locals := 0 })).room s m [.ref (a 0), .int x1].toArray below meth c s.heap [] 0 0 (MQ below (vp_Si (fun r => r = rf_endOf σ x1)) [.ref (a 0), .int x1].toArray s 0 0 (fun _ => False)) (F0 m 52 ls []) := by
        intro n
        induction n with
        | zero =>
          intro k x2 ls hkn hl hw
          rw [rf_endOf_52_0] at hw
          refine lv_iload_n hx hb dX4_endOf_52 rfl (lv_at hl 3 rfl) ?_
          refine lv_iconst (v := 3) hx hb dX4_endOf_53 (by decide) ?_
          refine lv_icmp_ge (tgt := 164) hx hb dX4_endOf_54 (by decide) (fun c_54_3 => ?_) (fun c_54_3 => ?_)
          · skip
            refine lv_iload_n hx hb dX4_endOf_164 rfl (lv_at hl 2 rfl) ?_
            refine lv_aload_n hx hb dX4_endOf_165 rfl (lv_at hl 0 rfl) ?_
            refine va_get (D := (dC, dI)) (ci := 4) (v := .int (σ 0 1)) (C := RX4) (T := TX4) (N := 23) hx hb hts (iwX4 _) hown hK hP 0 rfl rfl 1 (by decide) (hts _ (kc k_572)) (fun _ h9 => h9) rfl dX4_endOf_166 ?_
            refine lv_icmp_ge (tgt := 179) hx hb dX4_endOf_169 (by decide) (fun c_169_4 => ?_) (fun c_169_4 => ?_)
            · skip
              rw [if_pos c_169_4] at hw
              refine lv_iload_n hx hb dX4_endOf_179 rfl (lv_at hl 2 rfl) ?_
              exact W.iret (v := x2) hx hb hr (fun t ht hW => ⟨_, rfl, hw.symm.trans hR, ht⟩) (fun _ h => by cases h) dX4_endOf_180
            · skip
              rw [if_neg c_169_4] at hw
              refine lv_aload_n hx hb dX4_endOf_172 rfl (lv_at hl 0 rfl) ?_
              refine va_get (D := (dC, dI)) (ci := 4) (v := .int (σ 0 1)) (C := RX4) (T := TX4) (N := 23) hx hb hts (iwX4 _) hown hK hP 0 rfl rfl 1 (by decide) (hts _ (kc k_572)) (fun _ h9 => h9) rfl dX4_endOf_173 ?_
              refine lv_goto (tgt := 180) hx hb dX4_endOf_176 (by decide) ?_
              exact W.iret (v := σ 0 1) hx hb hr (fun t ht hW => ⟨_, rfl, hw.symm.trans hR, ht⟩) (fun _ h => by cases h) dX4_endOf_180
          · skip
            exact absurd (lpE ht_3 hkn (by omega)) c_54_3
        | succ n ih =>
          intro k x2 ls hkn hl hw
          rw [rf_endOf_52_s] at hw
          have hkf : vp_in (nI k) 3 := vp_in_nI (by omega) (by decide)
          refine lv_iload_n hx hb dX4_endOf_52 rfl (lv_at hl 3 rfl) ?_
          refine lv_iconst (v := 3) hx hb dX4_endOf_53 (by decide) ?_
          refine lv_icmp_ge (tgt := 164) hx hb dX4_endOf_54 (by decide) (fun c_54_5 => ?_) (fun c_54_5 => ?_)
          · skip
            exact absurd c_54_5 (lpB ht_3 hkn (by omega))
          · skip
            refine lv_iconst (v := 3) hx hb dX4_endOf_57 (by decide) ?_
            refine lv_aload_n hx hb dX4_endOf_58 rfl (lv_at hl 0 rfl) ?_
            refine va_get (D := (dC, dI)) (ci := 4) (v := .ref (a 8)) (C := RX4) (T := TX4) (N := 23) hx hb hts (iwX4 _) hown hK hP 0 rfl rfl 8 (by decide) (hts _ (kc k_579)) (fun _ h9 => h9) rfl dX4_endOf_59 ?_
            refine lv_iload_n hx hb dX4_endOf_62 rfl (lv_at hl 1 rfl) ?_
            refine va_iald (D := (dC, dI)) (f := σ 8) hx hb hK hP 6 0 rfl rfl (i := x1) h1 dX4_endOf_63 ?_
            refine lv_imul hx hb dX4_endOf_64 ?_
            refine lv_iload_n hx hb dX4_endOf_65 rfl (lv_at hl 3 rfl) ?_
            refine lv_iadd hx hb dX4_endOf_66 ?_
            refine lv_istore (lv' := [(4, .int (((3 : Int32) * (σ 8 x1.toNatClampNeg)) + (nI k))), (0, .ref (a 0)), (1, .int x1), (2, .int x2), (3, .int (nI k))]) hx hb dX4_endOf_67 hl (by decide) rfl (fun ls hl => ?_)
            refine lv_aload_n hx hb dX4_endOf_69 rfl (lv_at hl 1 rfl) ?_
            refine va_get (D := (dC, dI)) (ci := 4) (v := .ref (a 3)) (C := RX4) (T := TX4) (N := 23) hx hb hts (iwX4 _) hown hK hP 0 rfl rfl 3 (by decide) (hts _ (kc k_574)) (fun _ h9 => h9) rfl dX4_endOf_70 ?_
            refine lv_iload hx hb dX4_endOf_73 (lv_at hl 0 rfl) ?_
            refine va_iald (D := (dC, dI)) (f := σ 3) hx hb hK hP 2 0 rfl rfl (i := ((3 : Int32) * (σ 8 x1.toNatClampNeg)) + (nI k)) (in_3m (n := 5) (ir_k hiv h1) hkf (by decide) (by decide)) dX4_endOf_75 ?_
            obtain ⟨b_6, hb_6⟩ : ∃ z : Int32, z = (if (σ 3 (((3 : Int32) * (σ 8 x1.toNatClampNeg)) + (nI k)).toNatClampNeg) ≤ 0 then (1000000 : Int32) else ((σ 16 (((3 : Int32) * x1) + (nI k)).toNatClampNeg) + (σ 3 (((3 : Int32) * (σ 8 x1.toNatClampNeg)) + (nI k)).toNatClampNeg))) := ⟨_, rfl⟩
            replace hw : R = (let b_7 : Int32 := (if (σ 4 (((3 : Int32) * (σ 8 x1.toNatClampNeg)) + (nI k)).toNatClampNeg) ≤ 0 then b_6 else (if (σ 17 (((3 : Int32) * x1) + (nI k)).toNatClampNeg) < (σ 4 (((3 : Int32) * (σ 8 x1.toNatClampNeg)) + (nI k)).toNatClampNeg) then b_6 else (σ 0 1))); let b_8 : Int32 := (if x2 ≤ b_7 then x2 else b_7); rf_endOf_52 σ x1 n (k + 1) b_8) := by subst hb_6; exact hw
            have J_6 : ∀ (v9 : Int32) (ls : Array Slot), b_6 = v9 → lv_has ls 6 [(0, .ref (a 0)), (1, .int x1), (2, .int x2), (3, .int (nI k)), (4, .int (((3 : Int32) * (σ 8 x1.toNatClampNeg)) + (nI k)))] → W p l e (headSpec wsX4_endOf ({ frames := 0, cells := 0, slots := 0, locals := 0 })).room s m [.ref (a 0), .int x1].toArray below meth c s.heap [] 0 0 (MQ below (vp_Si (fun r => r = rf_endOf σ x1)) [.ref (a 0), .int x1].toArray s 0 0 (fun _ => False)) (F0 m 102 ls [.int v9]) := by
              intro v9 ls hv9 hl
              subst hv9
              refine lv_istore (lv' := [(5, .int b_6), (0, .ref (a 0)), (1, .int x1), (2, .int x2), (3, .int (nI k)), (4, .int (((3 : Int32) * (σ 8 x1.toNatClampNeg)) + (nI k)))]) hx hb dX4_endOf_102 hl (by decide) rfl (fun ls hl => ?_)
              refine lv_aload_n hx hb dX4_endOf_104 rfl (lv_at hl 1 rfl) ?_
              refine va_get (D := (dC, dI)) (ci := 4) (v := .ref (a 4)) (C := RX4) (T := TX4) (N := 23) hx hb hts (iwX4 _) hown hK hP 0 rfl rfl 4 (by decide) (hts _ (kc k_575)) (fun _ h9 => h9) rfl dX4_endOf_105 ?_
              refine lv_iload hx hb dX4_endOf_108 (lv_at hl 5 rfl) ?_
              refine va_iald (D := (dC, dI)) (f := σ 4) hx hb hK hP 3 0 rfl rfl (i := ((3 : Int32) * (σ 8 x1.toNatClampNeg)) + (nI k)) (in_3m (n := 5) (ir_k hiv h1) hkf (by decide) (by decide)) dX4_endOf_110 ?_
              obtain ⟨b_7, hb_7⟩ : ∃ z : Int32, z = (if (σ 4 (((3 : Int32) * (σ 8 x1.toNatClampNeg)) + (nI k)).toNatClampNeg) ≤ 0 then b_6 else (if (σ 17 (((3 : Int32) * x1) + (nI k)).toNatClampNeg) < (σ 4 (((3 : Int32) * (σ 8 x1.toNatClampNeg)) + (nI k)).toNatClampNeg) then b_6 else (σ 0 1))) := ⟨_, rfl⟩
              replace hw : R = (let b_8 : Int32 := (if x2 ≤ b_7 then x2 else b_7); rf_endOf_52 σ x1 n (k + 1) b_8) := by subst hb_7; exact hw
              have J_7 : ∀ (v9 : Int32) (ls : Array Slot), b_7 = v9 → lv_has ls 6 [(0, .ref (a 0)), (1, .int x1), (2, .int x2), (3, .int (nI k)), (4, .int (((3 : Int32) * (σ 8 x1.toNatClampNeg)) + (nI k))), (5, .int b_6)] → W p l e (headSpec wsX4_endOf ({ frames := 0, cells := 0, slots := 0, locals := 0 })).room s m [.ref (a 0), .int x1].toArray below meth c s.heap [] 0 0 (MQ below (vp_Si (fun r => r = rf_endOf σ x1)) [.ref (a 0), .int x1].toArray s 0 0 (fun _ => False)) (F0 m 143 ls [.int v9]) := by
                intro v9 ls hv9 hl
                subst hv9
                refine lv_istore (lv' := [(5, .int b_7), (0, .ref (a 0)), (1, .int x1), (2, .int x2), (3, .int (nI k)), (4, .int (((3 : Int32) * (σ 8 x1.toNatClampNeg)) + (nI k)))]) hx hb dX4_endOf_143 hl (by decide) rfl (fun ls hl => ?_)
                refine lv_iload hx hb dX4_endOf_145 (lv_at hl 0 rfl) ?_
                refine lv_iload_n hx hb dX4_endOf_147 rfl (lv_at hl 3 rfl) ?_
                obtain ⟨b_8, hb_8⟩ : ∃ z : Int32, z = (if x2 ≤ b_7 then x2 else b_7) := ⟨_, rfl⟩
                replace hw : R = (rf_endOf_52 σ x1 n (k + 1) b_8) := by subst hb_8; exact hw
                have J_8 : ∀ (v9 : Int32) (ls : Array Slot), b_8 = v9 → lv_has ls 6 [(0, .ref (a 0)), (1, .int x1), (2, .int x2), (3, .int (nI k)), (4, .int (((3 : Int32) * (σ 8 x1.toNatClampNeg)) + (nI k))), (5, .int b_7)] → W p l e (headSpec wsX4_endOf ({ frames := 0, cells := 0, slots := 0, locals := 0 })).room s m [.ref (a 0), .int x1].toArray below meth c s.heap [] 0 0 (MQ below (vp_Si (fun r => r = rf_endOf σ x1)) [.ref (a 0), .int x1].toArray s 0 0 (fun _ => False)) (F0 m 157 ls [.int v9]) := by
                  intro v9 ls hv9 hl
                  subst hv9
                  refine lv_istore_n (lv' := [(2, .int b_8), (0, .ref (a 0)), (1, .int x1), (3, .int (nI k)), (4, .int (((3 : Int32) * (σ 8 x1.toNatClampNeg)) + (nI k))), (5, .int b_7)]) hx hb dX4_endOf_157 rfl hl (by decide) rfl (fun ls hl => ?_)
                  refine lv_iinc (v := (nI (k + 1))) (lv' := [(3, .int (nI (k + 1))), (2, .int b_8), (0, .ref (a 0)), (1, .int x1), (4, .int (((3 : Int32) * (σ 8 x1.toNatClampNeg)) + (nI k))), (5, .int b_7)]) hx hb dX4_endOf_158 hl (k := 3) rfl (nI_1 k) (by decide) rfl (fun ls hl => ?_)
                  refine lv_goto (tgt := 52) hx hb dX4_endOf_161 (by decide) ?_
                  exact ih (k + 1) b_8 ls (by omega) (lv_sub hl [2, 3, 1, 0] rfl) hw
                have hq_8 := hb_8
                refine lv_icmp_ge (tgt := 156) hx hb dX4_endOf_148 (by decide) (fun c_148_9 => ?_) (fun c_148_9 => ?_)
                · skip
                  rw [if_pos c_148_9] at hq_8
                  refine lv_iload_n hx hb dX4_endOf_156 rfl (lv_at hl 3 rfl) ?_
                  exact J_8 _ ls hq_8 (lv_sub hl [1, 2, 3, 4, 5, 0] rfl)
                · skip
                  rw [if_neg c_148_9] at hq_8
                  refine lv_iload hx hb dX4_endOf_151 (lv_at hl 0 rfl) ?_
                  refine lv_goto (tgt := 157) hx hb dX4_endOf_153 (by decide) ?_
                  exact J_8 _ ls hq_8 (lv_sub hl [1, 2, 3, 4, 5, 0] rfl)
              have hq_7 := hb_7
              refine lv_if_le (tgt := 141) hx hb dX4_endOf_111 (by decide) (fun c_111_10 => ?_) (fun c_111_10 => ?_)
              · skip
                rw [if_pos c_111_10] at hq_7
                refine lv_iload hx hb dX4_endOf_141 (lv_at hl 0 rfl) ?_
                exact J_7 _ ls hq_7 (lv_sub hl [1, 2, 3, 4, 5, 0] rfl)
              · skip
                rw [if_neg c_111_10] at hq_7
                refine lv_aload_n hx hb dX4_endOf_114 rfl (lv_at hl 1 rfl) ?_
                refine va_get (D := (dC, dI)) (ci := 4) (v := .ref (a 17)) (C := RX4) (T := TX4) (N := 23) hx hb hts (iwX4 _) hown hK hP 0 rfl rfl 17 (by decide) (hts _ (kc k_588)) (fun _ h9 => h9) rfl dX4_endOf_115 ?_
                refine lv_iconst (v := 3) hx hb dX4_endOf_118 (by decide) ?_
                refine lv_iload_n hx hb dX4_endOf_119 rfl (lv_at hl 2 rfl) ?_
                refine lv_imul hx hb dX4_endOf_120 ?_
                refine lv_iload_n hx hb dX4_endOf_121 rfl (lv_at hl 4 rfl) ?_
                refine lv_iadd hx hb dX4_endOf_122 ?_
                refine va_iald (D := (dC, dI)) (f := σ 17) hx hb hK hP 15 0 rfl rfl (i := ((3 : Int32) * x1) + (nI k)) (in_3m (n := 40) h1 hkf (by decide) (by decide)) dX4_endOf_123 ?_
                refine lv_aload_n hx hb dX4_endOf_124 rfl (lv_at hl 1 rfl) ?_
                refine va_get (D := (dC, dI)) (ci := 4) (v := .ref (a 4)) (C := RX4) (T := TX4) (N := 23) hx hb hts (iwX4 _) hown hK hP 0 rfl rfl 4 (by decide) (hts _ (kc k_575)) (fun _ h9 => h9) rfl dX4_endOf_125 ?_
                refine lv_iload hx hb dX4_endOf_128 (lv_at hl 5 rfl) ?_
                refine va_iald (D := (dC, dI)) (f := σ 4) hx hb hK hP 3 0 rfl rfl (i := ((3 : Int32) * (σ 8 x1.toNatClampNeg)) + (nI k)) (in_3m (n := 5) (ir_k hiv h1) hkf (by decide) (by decide)) dX4_endOf_130 ?_
                refine lv_icmp_lt (tgt := 141) hx hb dX4_endOf_131 (by decide) (fun c_131_11 => ?_) (fun c_131_11 => ?_)
                · skip
                  rw [if_pos c_131_11] at hq_7
                  refine lv_iload hx hb dX4_endOf_141 (lv_at hl 0 rfl) ?_
                  exact J_7 _ ls hq_7 (lv_sub hl [1, 2, 3, 4, 5, 0] rfl)
                · skip
                  rw [if_neg c_131_11] at hq_7
                  refine lv_aload_n hx hb dX4_endOf_134 rfl (lv_at hl 1 rfl) ?_
                  refine va_get (D := (dC, dI)) (ci := 4) (v := .int (σ 0 1)) (C := RX4) (T := TX4) (N := 23) hx hb hts (iwX4 _) hown hK hP 0 rfl rfl 1 (by decide) (hts _ (kc k_572)) (fun _ h9 => h9) rfl dX4_endOf_135 ?_
                  refine lv_goto (tgt := 143) hx hb dX4_endOf_138 (by decide) ?_
                  exact J_7 _ ls hq_7 (lv_sub hl [1, 2, 3, 4, 5, 0] rfl)
            have hq_6 := hb_6
            refine lv_if_le (tgt := 100) hx hb dX4_endOf_76 (by decide) (fun c_76_12 => ?_) (fun c_76_12 => ?_)
            · skip
              rw [if_pos c_76_12] at hq_6
              refine lv_ldc (own := RX4) (v := 1000000) hx hb hown (hts _ (kc k_743)) dX4_endOf_100 ?_
              exact J_6 _ ls hq_6 (lv_sub hl [1, 2, 3, 4, 0] rfl)
            · skip
              rw [if_neg c_76_12] at hq_6
              refine lv_aload_n hx hb dX4_endOf_79 rfl (lv_at hl 1 rfl) ?_
              refine va_get (D := (dC, dI)) (ci := 4) (v := .ref (a 16)) (C := RX4) (T := TX4) (N := 23) hx hb hts (iwX4 _) hown hK hP 0 rfl rfl 16 (by decide) (hts _ (kc k_587)) (fun _ h9 => h9) rfl dX4_endOf_80 ?_
              refine lv_iconst (v := 3) hx hb dX4_endOf_83 (by decide) ?_
              refine lv_iload_n hx hb dX4_endOf_84 rfl (lv_at hl 2 rfl) ?_
              refine lv_imul hx hb dX4_endOf_85 ?_
              refine lv_iload_n hx hb dX4_endOf_86 rfl (lv_at hl 4 rfl) ?_
              refine lv_iadd hx hb dX4_endOf_87 ?_
              refine va_iald (D := (dC, dI)) (f := σ 16) hx hb hK hP 14 0 rfl rfl (i := ((3 : Int32) * x1) + (nI k)) (in_3m (n := 40) h1 hkf (by decide) (by decide)) dX4_endOf_88 ?_
              refine lv_aload_n hx hb dX4_endOf_89 rfl (lv_at hl 1 rfl) ?_
              refine va_get (D := (dC, dI)) (ci := 4) (v := .ref (a 3)) (C := RX4) (T := TX4) (N := 23) hx hb hts (iwX4 _) hown hK hP 0 rfl rfl 3 (by decide) (hts _ (kc k_574)) (fun _ h9 => h9) rfl dX4_endOf_90 ?_
              refine lv_iload hx hb dX4_endOf_93 (lv_at hl 0 rfl) ?_
              refine va_iald (D := (dC, dI)) (f := σ 3) hx hb hK hP 2 0 rfl rfl (i := ((3 : Int32) * (σ 8 x1.toNatClampNeg)) + (nI k)) (in_3m (n := 5) (ir_k hiv h1) hkf (by decide) (by decide)) dX4_endOf_95 ?_
              refine lv_iadd hx hb dX4_endOf_96 ?_
              refine lv_goto (tgt := 102) hx hb dX4_endOf_97 (by decide) ?_
              exact J_6 _ ls hq_6 (lv_sub hl [1, 2, 3, 4, 0] rfl)
      exact loop 3 0 b_2 ls (Nat.zero_add _) (lv_sub hl [2, 3, 1, 0] rfl) hw
    have hq_2 := hb_2
    refine lv_if_le (tgt := 47) hx hb dX4_endOf_23 (by decide) (fun c_23_13 => ?_) (fun c_23_13 => ?_)
    · skip
      rw [if_pos c_23_13] at hq_2
      refine lv_ldc (own := RX4) (v := 1000000) hx hb hown (hts _ (kc k_743)) dX4_endOf_47 ?_
      exact J_2 _ ls hq_2 (lv_sub hl [0, 1] rfl)
    · skip
      rw [if_neg c_23_13] at hq_2
      refine lv_aload_n hx hb dX4_endOf_26 rfl (lv_at hl 0 rfl) ?_
      refine va_get (D := (dC, dI)) (ci := 4) (v := .ref (a 12)) (C := RX4) (T := TX4) (N := 23) hx hb hts (iwX4 _) hown hK hP 0 rfl rfl 12 (by decide) (hts _ (kc k_583)) (fun _ h9 => h9) rfl dX4_endOf_27 ?_
      refine lv_iload_n hx hb dX4_endOf_30 rfl (lv_at hl 1 rfl) ?_
      refine va_iald (D := (dC, dI)) (f := σ 12) hx hb hK hP 10 0 rfl rfl (i := x1) h1 dX4_endOf_31 ?_
      refine lv_aload_n hx hb dX4_endOf_32 rfl (lv_at hl 0 rfl) ?_
      refine va_get (D := (dC, dI)) (ci := 4) (v := .ref (a 2)) (C := RX4) (T := TX4) (N := 23) hx hb hts (iwX4 _) hown hK hP 0 rfl rfl 2 (by decide) (hts _ (kc k_573)) (fun _ h9 => h9) rfl dX4_endOf_33 ?_
      refine lv_aload_n hx hb dX4_endOf_36 rfl (lv_at hl 0 rfl) ?_
      refine va_get (D := (dC, dI)) (ci := 4) (v := .ref (a 8)) (C := RX4) (T := TX4) (N := 23) hx hb hts (iwX4 _) hown hK hP 0 rfl rfl 8 (by decide) (hts _ (kc k_579)) (fun _ h9 => h9) rfl dX4_endOf_37 ?_
      refine lv_iload_n hx hb dX4_endOf_40 rfl (lv_at hl 1 rfl) ?_
      refine va_iald (D := (dC, dI)) (f := σ 8) hx hb hK hP 6 0 rfl rfl (i := x1) h1 dX4_endOf_41 ?_
      refine va_iald (D := (dC, dI)) (f := σ 2) hx hb hK hP 1 0 rfl rfl (i := σ 8 x1.toNatClampNeg) (ir_k hiv h1) dX4_endOf_42 ?_
      refine lv_iadd hx hb dX4_endOf_43 ?_
      refine lv_goto (tgt := 49) hx hb dX4_endOf_44 (by decide) ?_
      exact J_2 _ ls hq_2 (lv_sub hl [0, 1] rfl)
  · skip
    rw [if_neg c_6_1] at hw
    refine lv_ldc (own := RX4) (v := 1000000) hx hb hown (hts _ (kc k_743)) dX4_endOf_9 ?_
    exact W.iret (v := (1000000 : Int32)) hx hb hr (fun t ht hW => ⟨_, rfl, hw.symm.trans hR, ht⟩) (fun _ h => by cases h) dX4_endOf_11
set_option maxHeartbeats 4000000 in
set_option maxRecDepth 100000 in
theorem m_X4_leftOf (l : Launch) (dC : Nat → ClassId) (dI : Nat → Nat → Nat) (cI cZ : ClassId) (a : Nat → Nat) (σ : St) (x1 : Int32) (hiv : IVr σ) : Met l yX4_leftOf wsX4_leftOf ({ frames := 0, cells := 0, slots := 0, locals := 0 }) (pRr dC dI cI cZ a σ [.ref (a 0), .int x1]) (vp_Si (fun r => r = rf_leftOf σ x1)) 0 0 (fun _ => False) := by
  refine Met.ofW (cc := cX4_leftOf) (maxL := 4) (ret := (some .int)) (by decide) rfl ?_
  intro p e s m args below meth c s₁ B hml hv
  obtain ⟨rfl, hP, hK⟩ := hv
  have hx := B.exec
  have hb := B.bytes
  have hr := B.returns
  have hts := atoms_spec (ws := wsX4_leftOf) B.pre
  have hown : s.vm.findClass RX4 = some m.cls := findClass_of_methodNamed B.named
  have hlocks := B.notSynchronized
  have hl := lv_entry ([.ref (a 0), .int x1]) (n := 4) (Nat.le_of_ble_eq_true rfl)
  rw [lg_entry_eq]
  generalize (lg_sl ([.ref (a 0), .int x1]) ++ List.replicate (4 - (lg_sl ([.ref (a 0), .int x1])).length) Slot.unset).toArray = ls at hl ⊢
  have hl : lv_has ls 4 [(0, .ref (a 0)), (1, .int x1)] := hl
  obtain ⟨R, hR⟩ : ∃ z, z = rf_leftOf σ x1 := ⟨_, rfl⟩
  have hw := hR
  unfold rf_leftOf at hw
  have hle := ir_le hiv
  refine lv_iconst (v := 0) hx hb dX4_leftOf_0 (by decide) ?_
  refine lv_istore_n (lv' := [(2, .int (0 : Int32)), (0, .ref (a 0)), (1, .int x1)]) hx hb dX4_leftOf_1 rfl hl (by decide) rfl (fun ls hl => ?_)
  refine lv_iconst (v := 0) hx hb dX4_leftOf_2 (by decide) ?_
  refine lv_istore_n (lv' := [(3, .int (0 : Int32)), (2, .int (0 : Int32)), (0, .ref (a 0)), (1, .int x1)]) hx hb dX4_leftOf_3 rfl hl (by decide) rfl (fun ls hl => ?_)
  have loop : ∀ (n k : Nat) (x2 : Int32) (ls : Array Slot), k + n = cntR σ → lv_has ls 4 [(0, .ref (a 0)), (1, .int x1), (2, .int x2), (3, .int (nI k))] → R = rf_leftOf_4 σ x1 n k x2 → W p l e (headSpec wsX4_leftOf ({ frames := 0, cells := 0, slots := 0, locals := 0 })).room s m [.ref (a 0), .int x1].toArray below meth c s.heap [] 0 0 (MQ below (vp_Si (fun r => r = rf_leftOf σ x1)) [.ref (a 0), .int x1].toArray s 0 0 (fun _ => False)) (F0 m 4 ls []) := by
    intro n
    induction n with
    | zero =>
      intro k x2 ls hkn hl hw
      rw [rf_leftOf_4_0] at hw
      refine lv_iload_n hx hb dX4_leftOf_4 rfl (lv_at hl 3 rfl) ?_
      refine lv_aload_n hx hb dX4_leftOf_5 rfl (lv_at hl 0 rfl) ?_
      refine va_get (D := (dC, dI)) (ci := 4) (v := .int (σ 0 7)) (C := RX4) (T := TX4) (N := 23) hx hb hts (iwX4 _) hown hK hP 0 rfl rfl 7 (by decide) (hts _ (kc k_578)) (fun _ h9 => h9) rfl dX4_leftOf_6 ?_
      refine lv_icmp_ge (tgt := 45) hx hb dX4_leftOf_9 (by decide) (fun c_9_1 => ?_) (fun c_9_1 => ?_)
      · skip
        refine lv_iload_n hx hb dX4_leftOf_45 rfl (lv_at hl 2 rfl) ?_
        exact W.iret (v := x2) hx hb hr (fun t ht hW => ⟨_, rfl, hw.symm.trans hR, ht⟩) (fun _ h => by cases h) dX4_leftOf_46
      · skip
        exact absurd (lpE (ir_cnt hiv) hkn (by omega)) c_9_1
    | succ n ih =>
      intro k x2 ls hkn hl hw
      rw [rf_leftOf_4_s] at hw
      have hkf : vp_in (nI k) 40 := vp_in_nI (by omega) (by decide)
      refine lv_iload_n hx hb dX4_leftOf_4 rfl (lv_at hl 3 rfl) ?_
      refine lv_aload_n hx hb dX4_leftOf_5 rfl (lv_at hl 0 rfl) ?_
      refine va_get (D := (dC, dI)) (ci := 4) (v := .int (σ 0 7)) (C := RX4) (T := TX4) (N := 23) hx hb hts (iwX4 _) hown hK hP 0 rfl rfl 7 (by decide) (hts _ (kc k_578)) (fun _ h9 => h9) rfl dX4_leftOf_6 ?_
      refine lv_icmp_ge (tgt := 45) hx hb dX4_leftOf_9 (by decide) (fun c_9_2 => ?_) (fun c_9_2 => ?_)
      · skip
        exact absurd c_9_2 (lpB (ir_cnt hiv) hkn (by omega))
      · skip
        refine lv_iload_n hx hb dX4_leftOf_12 rfl (lv_at hl 2 rfl) ?_
        refine lv_aload_n hx hb dX4_leftOf_13 rfl (lv_at hl 0 rfl) ?_
        refine va_get (D := (dC, dI)) (ci := 4) (v := .ref (a 10)) (C := RX4) (T := TX4) (N := 23) hx hb hts (iwX4 _) hown hK hP 0 rfl rfl 10 (by decide) (hts _ (kc k_581)) (fun _ h9 => h9) rfl dX4_leftOf_14 ?_
        refine lv_iload_n hx hb dX4_leftOf_17 rfl (lv_at hl 3 rfl) ?_
        refine va_iald (D := (dC, dI)) (f := σ 10) hx hb hK hP 8 0 rfl rfl (i := nI k) hkf dX4_leftOf_18 ?_
        refine lv_iload_n hx hb dX4_leftOf_19 rfl (lv_at hl 1 rfl) ?_
        obtain ⟨b_3, hb_3⟩ : ∃ z : Int32, z = (if (σ 10 (nI k).toNatClampNeg) = x1 then (if 0 ≤ (σ 13 (nI k).toNatClampNeg) then (0 : Int32) else (1 : Int32)) else (0 : Int32)) := ⟨_, rfl⟩
        replace hw : R = (rf_leftOf_4 σ x1 n (k + 1) (x2 + b_3)) := by subst hb_3; exact hw
        have J_3 : ∀ (v9 : Int32) (ls : Array Slot), b_3 = v9 → lv_has ls 4 [(0, .ref (a 0)), (1, .int x1), (2, .int x2), (3, .int (nI k))] → W p l e (headSpec wsX4_leftOf ({ frames := 0, cells := 0, slots := 0, locals := 0 })).room s m [.ref (a 0), .int x1].toArray below meth c s.heap [] 0 0 (MQ below (vp_Si (fun r => r = rf_leftOf σ x1)) [.ref (a 0), .int x1].toArray s 0 0 (fun _ => False)) (F0 m 37 ls [.int v9, .int x2]) := by
          intro v9 ls hv9 hl
          subst hv9
          refine lv_iadd hx hb dX4_leftOf_37 ?_
          refine lv_istore_n (lv' := [(2, .int (x2 + b_3)), (0, .ref (a 0)), (1, .int x1), (3, .int (nI k))]) hx hb dX4_leftOf_38 rfl hl (by decide) rfl (fun ls hl => ?_)
          refine lv_iinc (v := (nI (k + 1))) (lv' := [(3, .int (nI (k + 1))), (2, .int (x2 + b_3)), (0, .ref (a 0)), (1, .int x1)]) hx hb dX4_leftOf_39 hl (k := 3) rfl (nI_1 k) (by decide) rfl (fun ls hl => ?_)
          refine lv_goto (tgt := 4) hx hb dX4_leftOf_42 (by decide) ?_
          exact ih (k + 1) (x2 + b_3) ls (by omega) (lv_sub hl [2, 3, 1, 0] rfl) hw
        have hq_3 := hb_3
        refine lv_icmp_ne (tgt := 36) hx hb dX4_leftOf_20 (by decide) (fun c_20_4 => ?_) (fun c_20_4 => ?_)
        · skip
          rw [if_neg c_20_4] at hq_3
          refine lv_iconst (v := 0) hx hb dX4_leftOf_36 (by decide) ?_
          exact J_3 _ ls hq_3 (lv_sub hl [0, 1, 2, 3] rfl)
        · skip
          rw [if_pos c_20_4] at hq_3
          refine lv_aload_n hx hb dX4_leftOf_23 rfl (lv_at hl 0 rfl) ?_
          refine va_get (D := (dC, dI)) (ci := 4) (v := .ref (a 13)) (C := RX4) (T := TX4) (N := 23) hx hb hts (iwX4 _) hown hK hP 0 rfl rfl 13 (by decide) (hts _ (kc k_584)) (fun _ h9 => h9) rfl dX4_leftOf_24 ?_
          refine lv_iload_n hx hb dX4_leftOf_27 rfl (lv_at hl 3 rfl) ?_
          refine va_iald (D := (dC, dI)) (f := σ 13) hx hb hK hP 11 0 rfl rfl (i := nI k) hkf dX4_leftOf_28 ?_
          refine lv_if_ge (tgt := 36) hx hb dX4_leftOf_29 (by decide) (fun c_29_5 => ?_) (fun c_29_5 => ?_)
          · skip
            rw [if_pos c_29_5] at hq_3
            refine lv_iconst (v := 0) hx hb dX4_leftOf_36 (by decide) ?_
            exact J_3 _ ls hq_3 (lv_sub hl [0, 1, 2, 3] rfl)
          · skip
            rw [if_neg c_29_5] at hq_3
            refine lv_iconst (v := 1) hx hb dX4_leftOf_32 (by decide) ?_
            refine lv_goto (tgt := 37) hx hb dX4_leftOf_33 (by decide) ?_
            exact J_3 _ ls hq_3 (lv_sub hl [0, 1, 2, 3] rfl)
  exact loop (cntR σ) 0 (0 : Int32) ls (Nat.zero_add _) (lv_sub hl [2, 3, 1, 0] rfl) hw
set_option maxHeartbeats 4000000 in
set_option maxRecDepth 100000 in
theorem m_X4_use (l : Launch) (dC : Nat → ClassId) (dI : Nat → Nat → Nat) (cI cZ : ClassId) (a : Nat → Nat) (sz : Nat) (σ : St) (x1 : Int32) (hiv : IVr σ) : Met l yX4_use wsX4_use ({ frames := 2, cells := 0, slots := 0, locals := 45 }) (pMr dC dI cI cZ a sz σ [.ref (a 0), .int x1]) (va_Qv (fun σ9 => σ9 = rf_use σ x1) (bMr dC dI cI cZ a (va_A (rw cI cZ a σ) sz)) (va_A (rw cI cZ a σ) sz)) 0 0 (va_A (rw cI cZ a σ) sz) := by
  refine Met.ofW (cc := cX4_use) (maxL := 4) (ret := none) (by decide) rfl ?_
  intro p e s m args below meth c s₁ B hml hv
  obtain ⟨rfl, hsz, hP, hK, hD0⟩ := hv
  have hx := B.exec
  have hb := B.bytes
  have hr := B.returns
  have hts := atoms_spec (ws := wsX4_use) B.pre
  have hown : s.vm.findClass RX4 = some m.cls := findClass_of_methodNamed B.named
  have hlocks := B.notSynchronized
  subst hsz
  have hD := hD0.self (sz := s.heap.size)
  generalize hAe : va_A (rw cI cZ a σ) s.heap.size = A at hD ⊢
  have hA : ∀ q : Nat, s.heap.size ≤ q → A q := fun q h => by rw [← hAe]; exact Or.inr h
  clear hAe hD0
  obtain ⟨H, hHe⟩ : ∃ z, z = s.heap := ⟨_, rfl⟩
  obtain ⟨locs, hLe⟩ : ∃ z : List Loc, z = [] := ⟨_, rfl⟩
  have hS : va_S A s.heap H locs := by rw [hHe, hLe]; exact va_S.rf
  have hP : va_P (dC, dI) vwCl (rw cI cZ a σ) H := by rw [hHe]; exact hP
  refine W_ofH hHe hLe ?_
  clear hHe hLe
  have hl := lv_entry ([.ref (a 0), .int x1]) (n := 4) (Nat.le_of_ble_eq_true rfl)
  rw [lg_entry_eq]
  generalize (lg_sl ([.ref (a 0), .int x1]) ++ List.replicate (4 - (lg_sl ([.ref (a 0), .int x1])).length) Slot.unset).toArray = ls at hl ⊢
  have hl : lv_has ls 4 [(0, .ref (a 0)), (1, .int x1)] := hl
  obtain ⟨R, hR⟩ : ∃ z, z = rf_use σ x1 := ⟨_, rfl⟩
  have hw := hR
  unfold rf_use at hw
  refine lv_aload_n hx hb dX4_use_0 rfl (lv_at hl 0 rfl) ?_
  refine lv_iload_n hx hb dX4_use_1 rfl (lv_at hl 1 rfl) ?_
  refine vp_callSi (W.runV (As := [.int x1]) (rest := []) ⟨hx, hb, hml, hown, hts⟩ (m_X4_isThing l dC dI cI cZ a σ x1) (cwV 1 hts (gV k_691 k_693 k_12 k_24 k_694) rfl rfl rfl (by decide +kernel) ⟨Nat.le_of_ble_eq_true rfl, Nat.le_of_ble_eq_true rfl⟩) (pv_rr (q := (RX4, TX4, 23)) (q0 := 0) (ci := 4) hK hP rfl rfl) rfl rfl hl.1 rfl (lv_room (Nat.le_of_ble_eq_true rfl)) dX4_use_2 ⟨Nat.le_of_ble_eq_true rfl, Nat.le_of_ble_eq_true rfl⟩) (fun r hrr => ?_)
  subst hrr
  obtain ⟨b_1, hb_1⟩ : ∃ z : Int32, z = (if (rf_isThing σ x1) = 0 then (1 : Int32) else (0 : Int32)) := ⟨_, rfl⟩
  replace hw : R = (let b_2 : Int32 := (if b_1 = 0 then (if (rf_reason σ x1) ≤ 0 then (0 : Int32) else (1 : Int32)) else (0 : Int32)); let σ_3 : St := (rf_throwing σ b_1 b_2 (0 : Int32) (0 : Int32)).2; if ((rf_throwing σ b_1 b_2 (0 : Int32) (0 : Int32)).1) = 0 then (rf_use_44 σ x1 σ_3 3 0) else σ_3) := by subst hb_1; exact hw
  have J_1 : ∀ (v9 : Int32) (ls : Array Slot), b_1 = v9 → lv_has ls 4 [(0, .ref (a 0)), (1, .int x1)] → W p l e (headSpec wsX4_use ({ frames := 2, cells := 0, slots := 0, locals := 45 })).room s m [.ref (a 0), .int x1].toArray below meth c H locs 0 0 (MQ below (va_Qv (fun σ9 => σ9 = rf_use σ x1) (bMr dC dI cI cZ a A) A) [.ref (a 0), .int x1].toArray s 0 0 A) (F0 m 13 ls [.int v9]) := by
    intro v9 ls hv9 hl
    subst hv9
    refine lv_istore_n (lv' := [(2, .int b_1), (0, .ref (a 0)), (1, .int x1)]) hx hb dX4_use_13 rfl hl (by decide) rfl (fun ls hl => ?_)
    refine lv_aload_n hx hb dX4_use_14 rfl (lv_at hl 1 rfl) ?_
    refine lv_iload_n hx hb dX4_use_15 rfl (lv_at hl 0 rfl) ?_
    refine lv_iload_n hx hb dX4_use_16 rfl (lv_at hl 0 rfl) ?_
    obtain ⟨b_2, hb_2⟩ : ∃ z : Int32, z = (if b_1 = 0 then (if (rf_reason σ x1) ≤ 0 then (0 : Int32) else (1 : Int32)) else (0 : Int32)) := ⟨_, rfl⟩
    replace hw : R = (let σ_3 : St := (rf_throwing σ b_1 b_2 (0 : Int32) (0 : Int32)).2; if ((rf_throwing σ b_1 b_2 (0 : Int32) (0 : Int32)).1) = 0 then (rf_use_44 σ x1 σ_3 3 0) else σ_3) := by subst hb_2; exact hw
    have J_2 : ∀ (v9 : Int32) (ls : Array Slot), b_2 = v9 → lv_has ls 4 [(0, .ref (a 0)), (1, .int x1), (2, .int b_1)] → W p l e (headSpec wsX4_use ({ frames := 2, cells := 0, slots := 0, locals := 45 })).room s m [.ref (a 0), .int x1].toArray below meth c H locs 0 0 (MQ below (va_Qv (fun σ9 => σ9 = rf_use σ x1) (bMr dC dI cI cZ a A) A) [.ref (a 0), .int x1].toArray s 0 0 A) (F0 m 33 ls [.int v9, .int b_1, .ref (a 0)]) := by
      intro v9 ls hv9 hl
      subst hv9
      refine lv_iconst (v := 0) hx hb dX4_use_33 (by decide) ?_
      refine lv_iconst (v := 0) hx hb dX4_use_34 (by decide) ?_
      have hFc := fr_all hD hS hA
      refine va_calli (va_runV (As := [.int b_1, .int b_2, .int (0 : Int32), .int (0 : Int32)]) (rest := []) ⟨hx, hb, hml, hown, hts⟩ (m_X4_throwing l dC dI cI cZ a H.size σ b_1 b_2 (0 : Int32) (0 : Int32)) (cwV 4 hts (gV k_650 k_652 k_11 k_24 k_653) rfl rfl rfl (by decide +kernel) ⟨Nat.le_of_ble_eq_true rfl, Nat.le_of_ble_eq_true rfl⟩) (pv_mr (q := (RX4, TX4, 23)) (q0 := 0) (ci := 4) hK hP hD rfl rfl) rfl rfl hl.1 rfl (lv_room (Nat.le_of_ble_eq_true rfl)) dX4_use_35 ⟨Nat.le_of_ble_eq_true rfl, Nat.le_of_ble_eq_true rfl⟩) hS (fun q _ h => hFc q h) hFc (fun r σ_3 t H1 locs ht hvm hw9 hB hz1 hk1 hS => ?_)
      obtain ⟨hP, hK1, hD1⟩ := hB
      rw [ht] at hP
      have hD := hD1.weaken (fun _ _ _ h => hFc _ h)
      clear hFc hD1 hK1
      obtain ⟨rfl, eσ_3⟩ : r = (rf_throwing σ b_1 b_2 (0 : Int32) (0 : Int32)).1 ∧ σ_3 = (rf_throwing σ b_1 b_2 (0 : Int32) (0 : Int32)).2 := ⟨congrArg Prod.fst hw9, congrArg Prod.snd hw9⟩
      clear hw9
      replace hw : R = (if ((rf_throwing σ b_1 b_2 (0 : Int32) (0 : Int32)).1) = 0 then (rf_use_44 σ x1 σ_3 3 0) else σ_3) := by subst eσ_3; exact hw
      generalize H1 = H at hP hS ⊢
      have hiv_4 : IVr σ_3 := by rw [eσ_3]; exact ir_thr hiv _ _ _ _
      refine lv_if_eq (tgt := 42) hx hb dX4_use_38 (by decide) (fun c_38_5 => ?_) (fun c_38_5 => ?_)
      · skip
        rw [if_pos c_38_5] at hw
        obtain ⟨z0_6, z1_7, z2_8, z3_9⟩ := thr0 c_38_5
        have hf_10 : vp_in x1 40 := bd_thing hiv hb_1 z0_6
        refine lv_iconst (v := 0) hx hb dX4_use_42 (by decide) ?_
        refine lv_istore_n (lv' := [(3, .int (0 : Int32)), (0, .ref (a 0)), (1, .int x1), (2, .int b_1)]) hx hb dX4_use_43 rfl hl (by decide) rfl (fun ls hl => ?_)
        have loop : ∀ (n k : Nat) (σ1 : St) (H : Heap) (locs : List Loc) (ls : Array Slot), k + n = 3 → va_P (dC, dI) vwCl (rw cI cZ a σ1) H → va_D A (rw cI cZ a σ1) → va_S A s.heap H locs → lv_has ls 4 [(0, .ref (a 0)), (1, .int x1), (2, .int b_1), (3, .int (nI k))] → R = rf_use_44 σ x1 σ1 n k → W p l e (headSpec wsX4_use ({ frames := 2, cells := 0, slots := 0, locals := 45 })).room s m [.ref (a 0), .int x1].toArray below meth c H locs 0 0 (MQ below (va_Qv (fun σ9 => σ9 = rf_use σ x1) (bMr dC dI cI cZ a A) A) [.ref (a 0), .int x1].toArray s 0 0 A) (F0 m 44 ls []) := by
          intro n
          induction n with
          | zero =>
            intro k σ1 H locs ls hkn hP hD hS hl hw
            rw [rf_use_44_0] at hw
            refine lv_iload_n hx hb dX4_use_44 rfl (lv_at hl 3 rfl) ?_
            refine lv_iconst (v := 3) hx hb dX4_use_45 (by decide) ?_
            refine lv_icmp_ge (tgt := 90) hx hb dX4_use_46 (by decide) (fun c_46_11 => ?_) (fun c_46_11 => ?_)
            · skip
              exact W.vret hx hb hr (fun t ht hW => ⟨⟨σ1, rfl, hw.symm.trans hR, by rw [ht]; exact hP, va_K.moved hW.alike hK, hD⟩, hS.F ht⟩) hS.2.2 dX4_use_90
            · skip
              exact absurd (lpE ht_3 hkn (by omega)) c_46_11
          | succ n ih =>
            intro k σ1 H locs ls hkn hP hD hS hl hw
            rw [rf_use_44_s] at hw
            have hkf : vp_in (nI k) 3 := vp_in_nI (by omega) (by decide)
            refine lv_iload_n hx hb dX4_use_44 rfl (lv_at hl 3 rfl) ?_
            refine lv_iconst (v := 3) hx hb dX4_use_45 (by decide) ?_
            refine lv_icmp_ge (tgt := 90) hx hb dX4_use_46 (by decide) (fun c_46_12 => ?_) (fun c_46_12 => ?_)
            · skip
              exact absurd c_46_12 (lpB ht_3 hkn (by omega))
            · skip
              refine lv_aload_n hx hb dX4_use_49 rfl (lv_at hl 0 rfl) ?_
              refine va_get (D := (dC, dI)) (ci := 4) (v := .ref (a 17)) (C := RX4) (T := TX4) (N := 23) hx hb hts (iwX4 _) hown hK hP 0 rfl rfl 17 (by decide) (hts _ (kc k_588)) (fun _ h9 => h9) rfl dX4_use_50 ?_
              refine lv_iconst (v := 3) hx hb dX4_use_53 (by decide) ?_
              refine lv_iload_n hx hb dX4_use_54 rfl (lv_at hl 1 rfl) ?_
              refine lv_imul hx hb dX4_use_55 ?_
              refine lv_iload_n hx hb dX4_use_56 rfl (lv_at hl 3 rfl) ?_
              refine lv_iadd hx hb dX4_use_57 ?_
              refine lv_dup2_11 hx hb dX4_use_58 rfl rfl ?_
              refine va_iald (D := (dC, dI)) (f := σ1 17) hx hb hK hP 15 0 rfl rfl (i := ((3 : Int32) * x1) + (nI k)) (in_3m (n := 40) hf_10 hkf (by decide) (by decide)) dX4_use_59 ?_
              refine lv_aload_n hx hb dX4_use_60 rfl (lv_at hl 0 rfl) ?_
              refine va_get (D := (dC, dI)) (ci := 4) (v := .ref (a 16)) (C := RX4) (T := TX4) (N := 23) hx hb hts (iwX4 _) hown hK hP 0 rfl rfl 16 (by decide) (hts _ (kc k_587)) (fun _ h9 => h9) rfl dX4_use_61 ?_
              refine lv_iconst (v := 3) hx hb dX4_use_64 (by decide) ?_
              refine lv_iload_n hx hb dX4_use_65 rfl (lv_at hl 1 rfl) ?_
              refine lv_imul hx hb dX4_use_66 ?_
              refine lv_iload_n hx hb dX4_use_67 rfl (lv_at hl 3 rfl) ?_
              refine lv_iadd hx hb dX4_use_68 ?_
              refine va_iald (D := (dC, dI)) (f := σ1 16) hx hb hK hP 14 0 rfl rfl (i := ((3 : Int32) * x1) + (nI k)) (in_3m (n := 40) hf_10 hkf (by decide) (by decide)) dX4_use_69 ?_
              refine lv_aload_n hx hb dX4_use_70 rfl (lv_at hl 0 rfl) ?_
              refine va_get (D := (dC, dI)) (ci := 4) (v := .int (σ1 0 1)) (C := RX4) (T := TX4) (N := 23) hx hb hts (iwX4 _) hown hK hP 0 rfl rfl 1 (by decide) (hts _ (kc k_572)) (fun _ h9 => h9) rfl dX4_use_71 ?_
              obtain ⟨b_13, hb_13⟩ : ∃ z : Int32, z = (if (σ1 0 1) ≤ (σ1 16 (((3 : Int32) * x1) + (nI k)).toNatClampNeg) then (0 : Int32) else (1 : Int32)) := ⟨_, rfl⟩
              replace hw : R = (let σ_14 : St := su σ1 17 ((((3 : Int32) * x1) + (nI k)).toNatClampNeg) ((σ1 17 (((3 : Int32) * x1) + (nI k)).toNatClampNeg) + b_13); rf_use_44 σ x1 σ_14 n (k + 1)) := by subst hb_13; exact hw
              have J_13 : ∀ (v9 : Int32) (ls : Array Slot), b_13 = v9 → lv_has ls 4 [(0, .ref (a 0)), (1, .int x1), (2, .int b_1), (3, .int (nI k))] → W p l e (headSpec wsX4_use ({ frames := 2, cells := 0, slots := 0, locals := 45 })).room s m [.ref (a 0), .int x1].toArray below meth c H locs 0 0 (MQ below (va_Qv (fun σ9 => σ9 = rf_use σ x1) (bMr dC dI cI cZ a A) A) [.ref (a 0), .int x1].toArray s 0 0 A) (F0 m 82 ls [.int v9, .int (σ1 17 (((3 : Int32) * x1) + (nI k)).toNatClampNeg), .int (((3 : Int32) * x1) + (nI k)), .ref (a 17)]) := by
                intro v9 ls hv9 hl
                subst hv9
                refine lv_iadd hx hb dX4_use_82 ?_
                refine va_iast (D := (dC, dI)) (f := σ1 17) hx hb hK hP hD hS 15 0 rfl rfl (i := ((3 : Int32) * x1) + (nI k)) (x := (σ1 17 (((3 : Int32) * x1) + (nI k)).toNatClampNeg) + b_13) (in_3m (n := 40) hf_10 hkf (by decide) (by decide)) dX4_use_83 (fun H locs hP hD hS => ?_)
                obtain ⟨σ_14, eσ_14⟩ : ∃ z : St, z = su σ1 17 ((((3 : Int32) * x1) + (nI k)).toNatClampNeg) ((σ1 17 (((3 : Int32) * x1) + (nI k)).toNatClampNeg) + b_13) := ⟨_, rfl⟩
                replace hP := P_rw_17 hP
                replace hD := D_rw_17 hD
                rw [← eσ_14] at hP hD
                replace hw : R = (rf_use_44 σ x1 σ_14 n (k + 1)) := by subst eσ_14; exact hw
                refine lv_iinc (v := (nI (k + 1))) (lv' := [(3, .int (nI (k + 1))), (0, .ref (a 0)), (1, .int x1), (2, .int b_1)]) hx hb dX4_use_84 hl (k := 3) rfl (nI_1 k) (by decide) rfl (fun ls hl => ?_)
                refine lv_goto (tgt := 44) hx hb dX4_use_87 (by decide) ?_
                exact ih (k + 1) σ_14 H locs ls (by omega) hP hD hS (lv_sub hl [1, 2, 3, 0] rfl) hw
              have hq_13 := hb_13
              refine lv_icmp_ge (tgt := 81) hx hb dX4_use_74 (by decide) (fun c_74_15 => ?_) (fun c_74_15 => ?_)
              · skip
                rw [if_pos c_74_15] at hq_13
                refine lv_iconst (v := 0) hx hb dX4_use_81 (by decide) ?_
                exact J_13 _ ls hq_13 (lv_sub hl [0, 1, 2, 3] rfl)
              · skip
                rw [if_neg c_74_15] at hq_13
                refine lv_iconst (v := 1) hx hb dX4_use_77 (by decide) ?_
                refine lv_goto (tgt := 82) hx hb dX4_use_78 (by decide) ?_
                exact J_13 _ ls hq_13 (lv_sub hl [0, 1, 2, 3] rfl)
        exact loop 3 0 σ_3 H locs ls (Nat.zero_add _) hP hD hS (lv_sub hl [1, 2, 3, 0] rfl) hw
      · skip
        rw [if_neg c_38_5] at hw
        exact W.vret hx hb hr (fun t ht hW => ⟨⟨σ_3, rfl, hw.symm.trans hR, by rw [ht]; exact hP, va_K.moved hW.alike hK, hD⟩, hS.F ht⟩) hS.2.2 dX4_use_41
    have hq_2 := hb_2
    refine lv_if_ne (tgt := 32) hx hb dX4_use_17 (by decide) (fun c_17_16 => ?_) (fun c_17_16 => ?_)
    · skip
      rw [if_neg c_17_16] at hq_2
      refine lv_iconst (v := 0) hx hb dX4_use_32 (by decide) ?_
      exact J_2 _ ls hq_2 (lv_sub hl [1, 2, 0] rfl)
    · skip
      rw [if_pos c_17_16] at hq_2
      have hf_17 : vp_in x1 40 := bd_thing hiv hb_1 c_17_16
      refine lv_aload_n hx hb dX4_use_20 rfl (lv_at hl 1 rfl) ?_
      refine lv_iload_n hx hb dX4_use_21 rfl (lv_at hl 2 rfl) ?_
      refine vp_callSi (W.runV (As := [.int x1]) (rest := [.int b_1, .ref (a 0)]) ⟨hx, hb, hml, hown, hts⟩ (m_X4_reason l dC dI cI cZ a σ x1 hiv hf_17) (cwV 1 hts (gV k_695 k_697 k_13 k_24 k_698) rfl rfl rfl (by decide +kernel) ⟨Nat.le_of_ble_eq_true rfl, Nat.le_of_ble_eq_true rfl⟩) (pv_rr (q := (RX4, TX4, 23)) (q0 := 0) (ci := 4) hK hP rfl rfl) rfl rfl hl.1 rfl (lv_room (Nat.le_of_ble_eq_true rfl)) dX4_use_22 ⟨Nat.le_of_ble_eq_true rfl, Nat.le_of_ble_eq_true rfl⟩) (fun r hrr => ?_)
      subst hrr
      refine lv_if_le (tgt := 32) hx hb dX4_use_25 (by decide) (fun c_25_18 => ?_) (fun c_25_18 => ?_)
      · skip
        rw [if_pos c_25_18] at hq_2
        refine lv_iconst (v := 0) hx hb dX4_use_32 (by decide) ?_
        exact J_2 _ ls hq_2 (lv_sub hl [1, 2, 0] rfl)
      · skip
        rw [if_neg c_25_18] at hq_2
        refine lv_iconst (v := 1) hx hb dX4_use_28 (by decide) ?_
        refine lv_goto (tgt := 33) hx hb dX4_use_29 (by decide) ?_
        exact J_2 _ ls hq_2 (lv_sub hl [1, 2, 0] rfl)
  have hq_1 := hb_1
  refine lv_if_ne (tgt := 12) hx hb dX4_use_5 (by decide) (fun c_5_19 => ?_) (fun c_5_19 => ?_)
  · skip
    rw [if_neg c_5_19] at hq_1
    refine lv_iconst (v := 0) hx hb dX4_use_12 (by decide) ?_
    exact J_1 _ ls hq_1 (lv_sub hl [0, 1] rfl)
  · skip
    rw [if_pos c_5_19] at hq_1
    refine lv_iconst (v := 1) hx hb dX4_use_8 (by decide) ?_
    refine lv_goto (tgt := 13) hx hb dX4_use_9 (by decide) ?_
    exact J_1 _ ls hq_1 (lv_sub hl [0, 1] rfl)
