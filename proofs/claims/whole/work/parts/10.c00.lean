set_option maxHeartbeats 4000000 in
set_option maxRecDepth 100000 in
theorem m_X0_gradeOf (l : Launch) (dC : Nat → ClassId) (dI : Nat → Nat → Nat) (cI cZ : ClassId) (a : Nat → Nat) (σ : St) (x1 : Int32) (x2 : Int32) (x3 : Int32) (h1 : vp_in x1 5) (h2 : vp_in x2 3) : Met l yX0_gradeOf wsX0_gradeOf ({ frames := 0, cells := 0, slots := 0, locals := 0 }) (pRo dC dI cI cZ a σ [.ref (a 1), .int x1, .int x2, .int x3]) (vp_Si (fun r => r = sp_gradeOf σ x1 x2 x3)) 0 0 (fun _ => False) := by
  refine Met.ofW (cc := cX0_gradeOf) (maxL := 5) (ret := (some .int)) (by decide) rfl ?_
  intro p e s m args below meth c s₁ B hml hv
  obtain ⟨rfl, hP, hK⟩ := hv
  have hx := B.exec
  have hb := B.bytes
  have hr := B.returns
  have hts := atoms_spec (ws := wsX0_gradeOf) B.pre
  have hown : s.vm.findClass RX0 = some m.cls := findClass_of_methodNamed B.named
  have hlocks := B.notSynchronized
  have hl := lv_entry ([.ref (a 1), .int x1, .int x2, .int x3]) (n := 5) (Nat.le_of_ble_eq_true rfl)
  rw [lg_entry_eq]
  generalize (lg_sl ([.ref (a 1), .int x1, .int x2, .int x3]) ++ List.replicate (5 - (lg_sl ([.ref (a 1), .int x1, .int x2, .int x3])).length) Slot.unset).toArray = ls at hl ⊢
  have hl : lv_has ls 5 [(0, .ref (a 1)), (1, .int x1), (2, .int x2), (3, .int x3)] := hl
  obtain ⟨R, hR⟩ : ∃ z, z = sp_gradeOf σ x1 x2 x3 := ⟨_, rfl⟩
  have hw := hR
  unfold sp_gradeOf at hw
  refine lv_iload_n hx hb dX0_gradeOf_0 rfl (lv_at hl 1 rfl) ?_
  refine lv_iconst (v := 3) hx hb dX0_gradeOf_1 (by decide) ?_
  refine lv_imul hx hb dX0_gradeOf_2 ?_
  refine lv_iload_n hx hb dX0_gradeOf_3 rfl (lv_at hl 2 rfl) ?_
  refine lv_iadd hx hb dX0_gradeOf_4 ?_
  refine lv_istore (lv' := [(4, .int ((x1 * (3 : Int32)) + x2)), (0, .ref (a 1)), (1, .int x1), (2, .int x2), (3, .int x3)]) hx hb dX0_gradeOf_5 hl (by decide) rfl (fun ls hl => ?_)
  refine lv_iload_n hx hb dX0_gradeOf_7 rfl (lv_at hl 4 rfl) ?_
  refine lv_aload_n hx hb dX0_gradeOf_8 rfl (lv_at hl 1 rfl) ?_
  refine va_get (D := (dC, dI)) (ci := 0) (v := .ref (a 6)) (C := RX0) (T := TX0) (N := 5) hx hb hts (iwX0 _) hown hK hP 1 rfl rfl 4 (by decide) (hts _ (kc k_56)) (fun _ h9 => h9) rfl dX0_gradeOf_9 ?_
  refine lv_iload hx hb dX0_gradeOf_12 (lv_at hl 0 rfl) ?_
  refine va_iald (D := (dC, dI)) (f := σ 6) hx hb hK hP 6 0 rfl rfl (i := (x1 * (3 : Int32)) + x2) (in_m3 (n := 5) h1 h2 (by decide) (by decide)) dX0_gradeOf_14 ?_
  refine lv_icmp_lt (tgt := 20) hx hb dX0_gradeOf_15 (by decide) (fun c_15_1 => ?_) (fun c_15_1 => ?_)
  · skip
    rw [if_pos c_15_1] at hw
    refine lv_iload_n hx hb dX0_gradeOf_20 rfl (lv_at hl 4 rfl) ?_
    refine lv_aload_n hx hb dX0_gradeOf_21 rfl (lv_at hl 1 rfl) ?_
    refine va_get (D := (dC, dI)) (ci := 0) (v := .ref (a 5)) (C := RX0) (T := TX0) (N := 5) hx hb hts (iwX0 _) hown hK hP 1 rfl rfl 3 (by decide) (hts _ (kc k_54)) (fun _ h9 => h9) rfl dX0_gradeOf_22 ?_
    refine lv_iload hx hb dX0_gradeOf_25 (lv_at hl 0 rfl) ?_
    refine va_iald (D := (dC, dI)) (f := σ 5) hx hb hK hP 5 0 rfl rfl (i := (x1 * (3 : Int32)) + x2) (in_m3 (n := 5) h1 h2 (by decide) (by decide)) dX0_gradeOf_27 ?_
    refine lv_icmp_lt (tgt := 35) hx hb dX0_gradeOf_28 (by decide) (fun c_28_2 => ?_) (fun c_28_2 => ?_)
    · skip
      rw [if_pos c_28_2] at hw
      refine lv_iconst (v := 2) hx hb dX0_gradeOf_35 (by decide) ?_
      exact W.iret (v := (2 : Int32)) hx hb hr (fun t ht hW => ⟨_, rfl, hw.symm.trans hR, ht⟩) (fun _ h => by cases h) dX0_gradeOf_36
    · skip
      rw [if_neg c_28_2] at hw
      refine lv_iconst (v := 1) hx hb dX0_gradeOf_31 (by decide) ?_
      refine lv_goto (tgt := 36) hx hb dX0_gradeOf_32 (by decide) ?_
      exact W.iret (v := (1 : Int32)) hx hb hr (fun t ht hW => ⟨_, rfl, hw.symm.trans hR, ht⟩) (fun _ h => by cases h) dX0_gradeOf_36
  · skip
    rw [if_neg c_15_1] at hw
    refine lv_iconst (v := 0) hx hb dX0_gradeOf_18 (by decide) ?_
    exact W.iret (v := (0 : Int32)) hx hb hr (fun t ht hW => ⟨_, rfl, hw.symm.trans hR, ht⟩) (fun _ h => by cases h) dX0_gradeOf_19
set_option maxHeartbeats 4000000 in
set_option maxRecDepth 100000 in
theorem m_X2_hasSerial (l : Launch) (dC : Nat → ClassId) (dI : Nat → Nat → Nat) (cI cZ : ClassId) (a : Nat → Nat) (σ : St) (x1 : Int32) (hiv : IV σ) : Met l yX2_hasSerial wsX2_hasSerial ({ frames := 0, cells := 0, slots := 0, locals := 0 }) (pRo dC dI cI cZ a σ [.ref (a 7), .int x1]) (vp_Si (fun r => r = sp_hasSerial σ x1)) 0 0 (fun _ => False) := by
  refine Met.ofW (cc := cX2_hasSerial) (maxL := 3) (ret := (some .boolean)) (by decide) rfl ?_
  intro p e s m args below meth c s₁ B hml hv
  obtain ⟨rfl, hP, hK⟩ := hv
  have hx := B.exec
  have hb := B.bytes
  have hr := B.returns
  have hts := atoms_spec (ws := wsX2_hasSerial) B.pre
  have hown : s.vm.findClass RX2 = some m.cls := findClass_of_methodNamed B.named
  have hlocks := B.notSynchronized
  have hl := lv_entry ([.ref (a 7), .int x1]) (n := 3) (Nat.le_of_ble_eq_true rfl)
  rw [lg_entry_eq]
  generalize (lg_sl ([.ref (a 7), .int x1]) ++ List.replicate (3 - (lg_sl ([.ref (a 7), .int x1])).length) Slot.unset).toArray = ls at hl ⊢
  have hl : lv_has ls 3 [(0, .ref (a 7)), (1, .int x1)] := hl
  obtain ⟨R, hR⟩ : ∃ z, z = sp_hasSerial σ x1 := ⟨_, rfl⟩
  have hw := hR
  unfold sp_hasSerial at hw
  have hle := iv_le hiv
  refine lv_iconst (v := 0) hx hb dX2_hasSerial_0 (by decide) ?_
  refine lv_istore_n (lv' := [(2, .int (0 : Int32)), (0, .ref (a 7)), (1, .int x1)]) hx hb dX2_hasSerial_1 rfl hl (by decide) rfl (fun ls hl => ?_)
  have loop : ∀ (n k : Nat) (ls : Array Slot), k + n = cntN σ → lv_has ls 3 [(0, .ref (a 7)), (1, .int x1), (2, .int (nI k))] → R = sp_hasSerial_2 σ x1 n k → W p l e (headSpec wsX2_hasSerial ({ frames := 0, cells := 0, slots := 0, locals := 0 })).room s m [.ref (a 7), .int x1].toArray below meth c s.heap [] 0 0 (MQ below (vp_Si (fun r => r = sp_hasSerial σ x1)) [.ref (a 7), .int x1].toArray s 0 0 (fun _ => False)) (F0 m 2 ls []) := by
    intro n
    induction n with
    | zero =>
      intro k ls hkn hl hw
      rw [sp_hasSerial_2_0] at hw
      refine lv_iload_n hx hb dX2_hasSerial_2 rfl (lv_at hl 2 rfl) ?_
      refine lv_aload_n hx hb dX2_hasSerial_3 rfl (lv_at hl 0 rfl) ?_
      refine va_get (D := (dC, dI)) (ci := 2) (v := .int (σ 7 11)) (C := RX2) (T := TX2) (N := 12) hx hb hts (iwX2 _) hown hK hP 7 rfl rfl 11 (by decide) (hts _ (kc k_96)) (fun _ h9 => h9) rfl dX2_hasSerial_4 ?_
      refine lv_icmp_ge (tgt := 28) hx hb dX2_hasSerial_7 (by decide) (fun c_7_1 => ?_) (fun c_7_1 => ?_)
      · skip
        refine lv_iconst (v := 0) hx hb dX2_hasSerial_28 (by decide) ?_
        exact W.zret (v := (0 : Int32)) (ty := .boolean) hx hb hr (by decide) (fun t ht hW => ⟨_, rfl, hw.symm.trans hR, ht⟩) (fun _ h => by cases h) dX2_hasSerial_29
      · skip
        exact absurd (lpE (iv_cnt hiv) hkn (by omega)) c_7_1
    | succ n ih =>
      intro k ls hkn hl hw
      rw [sp_hasSerial_2_s] at hw
      have hkf : vp_in (nI k) 40 := vp_in_nI (by omega) (by decide)
      refine lv_iload_n hx hb dX2_hasSerial_2 rfl (lv_at hl 2 rfl) ?_
      refine lv_aload_n hx hb dX2_hasSerial_3 rfl (lv_at hl 0 rfl) ?_
      refine va_get (D := (dC, dI)) (ci := 2) (v := .int (σ 7 11)) (C := RX2) (T := TX2) (N := 12) hx hb hts (iwX2 _) hown hK hP 7 rfl rfl 11 (by decide) (hts _ (kc k_96)) (fun _ h9 => h9) rfl dX2_hasSerial_4 ?_
      refine lv_icmp_ge (tgt := 28) hx hb dX2_hasSerial_7 (by decide) (fun c_7_2 => ?_) (fun c_7_2 => ?_)
      · skip
        exact absurd c_7_2 (lpB (iv_cnt hiv) hkn (by omega))
      · skip
        refine lv_aload_n hx hb dX2_hasSerial_10 rfl (lv_at hl 0 rfl) ?_
        refine va_get (D := (dC, dI)) (ci := 2) (v := .ref (a 9)) (C := RX2) (T := TX2) (N := 12) hx hb hts (iwX2 _) hown hK hP 7 rfl rfl 1 (by decide) (hts _ (kc k_78)) (fun _ h9 => h9) rfl dX2_hasSerial_11 ?_
        refine lv_iload_n hx hb dX2_hasSerial_14 rfl (lv_at hl 2 rfl) ?_
        refine va_iald (D := (dC, dI)) (f := σ 9) hx hb hK hP 9 0 rfl rfl (i := nI k) hkf dX2_hasSerial_15 ?_
        refine lv_iload_n hx hb dX2_hasSerial_16 rfl (lv_at hl 1 rfl) ?_
        refine lv_icmp_ne (tgt := 22) hx hb dX2_hasSerial_17 (by decide) (fun c_17_3 => ?_) (fun c_17_3 => ?_)
        · skip
          rw [if_neg c_17_3] at hw
          refine lv_iinc (v := (nI (k + 1))) (lv' := [(2, .int (nI (k + 1))), (0, .ref (a 7)), (1, .int x1)]) hx hb dX2_hasSerial_22 hl (k := 2) rfl (nI_1 k) (by decide) rfl (fun ls hl => ?_)
          refine lv_goto (tgt := 2) hx hb dX2_hasSerial_25 (by decide) ?_
          exact ih (k + 1) ls (by omega) (lv_sub hl [1, 2, 0] rfl) hw
        · skip
          rw [if_pos c_17_3] at hw
          refine lv_iconst (v := 1) hx hb dX2_hasSerial_20 (by decide) ?_
          exact W.zret (v := (1 : Int32)) (ty := .boolean) hx hb hr (by decide) (fun t ht hW => ⟨_, rfl, hw.symm.trans hR, ht⟩) (fun _ h => by cases h) dX2_hasSerial_21
  exact loop (cntN σ) 0 ls (Nat.zero_add _) (lv_sub hl [1, 2, 0] rfl) hw
set_option maxHeartbeats 4000000 in
set_option maxRecDepth 100000 in
theorem m_X2_isScrapped (l : Launch) (dC : Nat → ClassId) (dI : Nat → Nat → Nat) (cI cZ : ClassId) (a : Nat → Nat) (σ : St) (x1 : Int32) (h1 : vp_in x1 40) : Met l yX2_isScrapped wsX2_isScrapped ({ frames := 0, cells := 0, slots := 0, locals := 0 }) (pRo dC dI cI cZ a σ [.ref (a 7), .int x1]) (vp_Si (fun r => r = sp_isScrapped σ x1)) 0 0 (fun _ => False) := by
  refine Met.ofW (cc := cX2_isScrapped) (maxL := 2) (ret := (some .boolean)) (by decide) rfl ?_
  intro p e s m args below meth c s₁ B hml hv
  obtain ⟨rfl, hP, hK⟩ := hv
  have hx := B.exec
  have hb := B.bytes
  have hr := B.returns
  have hts := atoms_spec (ws := wsX2_isScrapped) B.pre
  have hown : s.vm.findClass RX2 = some m.cls := findClass_of_methodNamed B.named
  have hlocks := B.notSynchronized
  have hl := lv_entry ([.ref (a 7), .int x1]) (n := 2) (Nat.le_of_ble_eq_true rfl)
  rw [lg_entry_eq]
  generalize (lg_sl ([.ref (a 7), .int x1]) ++ List.replicate (2 - (lg_sl ([.ref (a 7), .int x1])).length) Slot.unset).toArray = ls at hl ⊢
  have hl : lv_has ls 2 [(0, .ref (a 7)), (1, .int x1)] := hl
  obtain ⟨R, hR⟩ : ∃ z, z = sp_isScrapped σ x1 := ⟨_, rfl⟩
  have hw := hR
  unfold sp_isScrapped at hw
  refine lv_aload_n hx hb dX2_isScrapped_0 rfl (lv_at hl 0 rfl) ?_
  refine va_get (D := (dC, dI)) (ci := 2) (v := .ref (a 13)) (C := RX2) (T := TX2) (N := 12) hx hb hts (iwX2 _) hown hK hP 7 rfl rfl 5 (by decide) (hts _ (kc k_85)) (fun _ h9 => h9) rfl dX2_isScrapped_1 ?_
  refine lv_iload_n hx hb dX2_isScrapped_4 rfl (lv_at hl 1 rfl) ?_
  refine va_iald (D := (dC, dI)) (f := σ 13) hx hb hK hP 13 0 rfl rfl (i := x1) h1 dX2_isScrapped_5 ?_
  refine lv_iconst (v := -1) hx hb dX2_isScrapped_6 (by decide) ?_
  refine lv_icmp_eq (tgt := 14) hx hb dX2_isScrapped_7 (by decide) (fun c_7_1 => ?_) (fun c_7_1 => ?_)
  · skip
    rw [if_pos c_7_1] at hw
    refine lv_iconst (v := 0) hx hb dX2_isScrapped_14 (by decide) ?_
    exact W.zret (v := (0 : Int32)) (ty := .boolean) hx hb hr (by decide) (fun t ht hW => ⟨_, rfl, hw.symm.trans hR, ht⟩) (fun _ h => by cases h) dX2_isScrapped_15
  · skip
    rw [if_neg c_7_1] at hw
    refine lv_iconst (v := 1) hx hb dX2_isScrapped_10 (by decide) ?_
    refine lv_goto (tgt := 15) hx hb dX2_isScrapped_11 (by decide) ?_
    exact W.zret (v := (1 : Int32)) (ty := .boolean) hx hb hr (by decide) (fun t ht hW => ⟨_, rfl, hw.symm.trans hR, ht⟩) (fun _ h => by cases h) dX2_isScrapped_15
set_option maxHeartbeats 4000000 in
set_option maxRecDepth 100000 in
theorem m_X2_conditionOf (l : Launch) (dC : Nat → ClassId) (dI : Nat → Nat → Nat) (cI cZ : ClassId) (a : Nat → Nat) (σ : St) (x1 : Int32) (h1 : vp_in x1 40) : Met l yX2_conditionOf wsX2_conditionOf ({ frames := 1, cells := 0, slots := 0, locals := 21 }) (pRo dC dI cI cZ a σ [.ref (a 7), .int x1]) (vp_Si (fun r => r = sp_conditionOf σ x1)) 0 0 (fun _ => False) := by
  refine Met.ofW (cc := cX2_conditionOf) (maxL := 4) (ret := (some .int)) (by decide) rfl ?_
  intro p e s m args below meth c s₁ B hml hv
  obtain ⟨rfl, hP, hK⟩ := hv
  have hx := B.exec
  have hb := B.bytes
  have hr := B.returns
  have hts := atoms_spec (ws := wsX2_conditionOf) B.pre
  have hown : s.vm.findClass RX2 = some m.cls := findClass_of_methodNamed B.named
  have hlocks := B.notSynchronized
  have hl := lv_entry ([.ref (a 7), .int x1]) (n := 4) (Nat.le_of_ble_eq_true rfl)
  rw [lg_entry_eq]
  generalize (lg_sl ([.ref (a 7), .int x1]) ++ List.replicate (4 - (lg_sl ([.ref (a 7), .int x1])).length) Slot.unset).toArray = ls at hl ⊢
  have hl : lv_has ls 4 [(0, .ref (a 7)), (1, .int x1)] := hl
  obtain ⟨R, hR⟩ : ∃ z, z = sp_conditionOf σ x1 := ⟨_, rfl⟩
  have hw := hR
  unfold sp_conditionOf at hw
  refine lv_iconst (v := 0) hx hb dX2_conditionOf_0 (by decide) ?_
  refine lv_istore_n (lv' := [(2, .int (0 : Int32)), (0, .ref (a 7)), (1, .int x1)]) hx hb dX2_conditionOf_1 rfl hl (by decide) rfl (fun ls hl => ?_)
  refine lv_iconst (v := 0) hx hb dX2_conditionOf_2 (by decide) ?_
  refine lv_istore_n (lv' := [(3, .int (0 : Int32)), (2, .int (0 : Int32)), (0, .ref (a 7)), (1, .int x1)]) hx hb dX2_conditionOf_3 rfl hl (by decide) rfl (fun ls hl => ?_)
  have loop : ∀ (n k : Nat) (x2 : Int32) (ls : Array Slot), k + n = 3 → lv_has ls 4 [(0, .ref (a 7)), (1, .int x1), (2, .int x2), (3, .int (nI k))] → R = sp_conditionOf_4 σ x1 n k x2 → W p l e (headSpec wsX2_conditionOf ({ frames := 1, cells := 0, slots := 0, locals := 21 })).room s m [.ref (a 7), .int x1].toArray below meth c s.heap [] 0 0 (MQ below (vp_Si (fun r => r = sp_conditionOf σ x1)) [.ref (a 7), .int x1].toArray s 0 0 (fun _ => False)) (F0 m 4 ls []) := by
    intro n
    induction n with
    | zero =>
      intro k x2 ls hkn hl hw
      rw [sp_conditionOf_4_0] at hw
      refine lv_iload_n hx hb dX2_conditionOf_4 rfl (lv_at hl 3 rfl) ?_
      refine lv_iconst (v := 3) hx hb dX2_conditionOf_5 (by decide) ?_
      refine lv_icmp_ge (tgt := 30) hx hb dX2_conditionOf_6 (by decide) (fun c_6_1 => ?_) (fun c_6_1 => ?_)
      · skip
        refine lv_iload_n hx hb dX2_conditionOf_30 rfl (lv_at hl 2 rfl) ?_
        exact W.iret (v := x2) hx hb hr (fun t ht hW => ⟨_, rfl, hw.symm.trans hR, ht⟩) (fun _ h => by cases h) dX2_conditionOf_31
      · skip
        exact absurd (lpE ht_3 hkn (by omega)) c_6_1
    | succ n ih =>
      intro k x2 ls hkn hl hw
      rw [sp_conditionOf_4_s] at hw
      have hkf : vp_in (nI k) 3 := vp_in_nI (by omega) (by decide)
      refine lv_iload_n hx hb dX2_conditionOf_4 rfl (lv_at hl 3 rfl) ?_
      refine lv_iconst (v := 3) hx hb dX2_conditionOf_5 (by decide) ?_
      refine lv_icmp_ge (tgt := 30) hx hb dX2_conditionOf_6 (by decide) (fun c_6_2 => ?_) (fun c_6_2 => ?_)
      · skip
        exact absurd c_6_2 (lpB ht_3 hkn (by omega))
      · skip
        refine lv_iload_n hx hb dX2_conditionOf_9 rfl (lv_at hl 2 rfl) ?_
        refine lv_aload_n hx hb dX2_conditionOf_10 rfl (lv_at hl 0 rfl) ?_
        refine va_get (D := (dC, dI)) (ci := 2) (v := .ref (a 18)) (C := RX2) (T := TX2) (N := 12) hx hb hts (iwX2 _) hown hK hP 7 rfl rfl 10 (by decide) (hts _ (kc k_95)) (fun _ h9 => h9) rfl dX2_conditionOf_11 ?_
        refine lv_iload_n hx hb dX2_conditionOf_14 rfl (lv_at hl 1 rfl) ?_
        refine lv_iconst (v := 3) hx hb dX2_conditionOf_15 (by decide) ?_
        refine lv_imul hx hb dX2_conditionOf_16 ?_
        refine lv_iload_n hx hb dX2_conditionOf_17 rfl (lv_at hl 3 rfl) ?_
        refine lv_iadd hx hb dX2_conditionOf_18 ?_
        refine va_iald (D := (dC, dI)) (f := σ 18) hx hb hK hP 18 0 rfl rfl (i := (x1 * (3 : Int32)) + (nI k)) (in_m3 (n := 40) h1 hkf (by decide) (by decide)) dX2_conditionOf_19 ?_
        refine va_mmax hx hb (hml.trans hl.1.symm) hown (hts _ (kc k_396)) (hts _ (kc k_397)) (hts _ (kc k_32)) (hts _ (kc k_398)) (Nat.le_of_ble_eq_true rfl) (Nat.le_of_ble_eq_true rfl) (Nat.le_of_ble_eq_true rfl) (Nat.le_of_ble_eq_true rfl) dX2_conditionOf_20 ?_
        refine lv_istore_n (lv' := [(2, .int (if x2 < (σ 18 ((x1 * (3 : Int32)) + (nI k)).toNatClampNeg) then (σ 18 ((x1 * (3 : Int32)) + (nI k)).toNatClampNeg) else x2)), (0, .ref (a 7)), (1, .int x1), (3, .int (nI k))]) hx hb dX2_conditionOf_23 rfl hl (by decide) rfl (fun ls hl => ?_)
        refine lv_iinc (v := (nI (k + 1))) (lv' := [(3, .int (nI (k + 1))), (2, .int (if x2 < (σ 18 ((x1 * (3 : Int32)) + (nI k)).toNatClampNeg) then (σ 18 ((x1 * (3 : Int32)) + (nI k)).toNatClampNeg) else x2)), (0, .ref (a 7)), (1, .int x1)]) hx hb dX2_conditionOf_24 hl (k := 3) rfl (nI_1 k) (by decide) rfl (fun ls hl => ?_)
        refine lv_goto (tgt := 4) hx hb dX2_conditionOf_27 (by decide) ?_
        exact ih (k + 1) (if x2 < (σ 18 ((x1 * (3 : Int32)) + (nI k)).toNatClampNeg) then (σ 18 ((x1 * (3 : Int32)) + (nI k)).toNatClampNeg) else x2) ls (by omega) (lv_sub hl [2, 3, 1, 0] rfl) hw
  exact loop 3 0 (0 : Int32) ls (Nat.zero_add _) (lv_sub hl [2, 3, 1, 0] rfl) hw
set_option maxHeartbeats 4000000 in
set_option maxRecDepth 100000 in
theorem m_X2_isLeftOf (l : Launch) (dC : Nat → ClassId) (dI : Nat → Nat → Nat) (cI cZ : ClassId) (a : Nat → Nat) (σ : St) (x1 : Int32) (x2 : Int32) (h2 : vp_in x2 40) : Met l yX2_isLeftOf wsX2_isLeftOf ({ frames := 1, cells := 0, slots := 0, locals := 21 }) (pRo dC dI cI cZ a σ [.ref (a 7), .int x1, .int x2]) (vp_Si (fun r => r = sp_isLeftOf σ x1 x2)) 0 0 (fun _ => False) := by
  refine Met.ofW (cc := cX2_isLeftOf) (maxL := 3) (ret := (some .boolean)) (by decide) rfl ?_
  intro p e s m args below meth c s₁ B hml hv
  obtain ⟨rfl, hP, hK⟩ := hv
  have hx := B.exec
  have hb := B.bytes
  have hr := B.returns
  have hts := atoms_spec (ws := wsX2_isLeftOf) B.pre
  have hown : s.vm.findClass RX2 = some m.cls := findClass_of_methodNamed B.named
  have hlocks := B.notSynchronized
  have hl := lv_entry ([.ref (a 7), .int x1, .int x2]) (n := 3) (Nat.le_of_ble_eq_true rfl)
  rw [lg_entry_eq]
  generalize (lg_sl ([.ref (a 7), .int x1, .int x2]) ++ List.replicate (3 - (lg_sl ([.ref (a 7), .int x1, .int x2])).length) Slot.unset).toArray = ls at hl ⊢
  have hl : lv_has ls 3 [(0, .ref (a 7)), (1, .int x1), (2, .int x2)] := hl
  obtain ⟨R, hR⟩ : ∃ z, z = sp_isLeftOf σ x1 x2 := ⟨_, rfl⟩
  have hw := hR
  unfold sp_isLeftOf at hw
  refine lv_aload_n hx hb dX2_isLeftOf_0 rfl (lv_at hl 0 rfl) ?_
  refine va_get (D := (dC, dI)) (ci := 2) (v := .ref (a 10)) (C := RX2) (T := TX2) (N := 12) hx hb hts (iwX2 _) hown hK hP 7 rfl rfl 2 (by decide) (hts _ (kc k_79)) (fun _ h9 => h9) rfl dX2_isLeftOf_1 ?_
  refine lv_iload_n hx hb dX2_isLeftOf_4 rfl (lv_at hl 2 rfl) ?_
  refine va_iald (D := (dC, dI)) (f := σ 10) hx hb hK hP 10 0 rfl rfl (i := x2) h2 dX2_isLeftOf_5 ?_
  refine lv_iload_n hx hb dX2_isLeftOf_6 rfl (lv_at hl 1 rfl) ?_
  refine lv_icmp_ne (tgt := 22) hx hb dX2_isLeftOf_7 (by decide) (fun c_7_1 => ?_) (fun c_7_1 => ?_)
  · skip
    rw [if_neg c_7_1] at hw
    refine lv_iconst (v := 0) hx hb dX2_isLeftOf_22 (by decide) ?_
    exact W.zret (v := (0 : Int32)) (ty := .boolean) hx hb hr (by decide) (fun t ht hW => ⟨_, rfl, hw.symm.trans hR, ht⟩) (fun _ h => by cases h) dX2_isLeftOf_23
  · skip
    rw [if_pos c_7_1] at hw
    refine lv_aload_n hx hb dX2_isLeftOf_10 rfl (lv_at hl 0 rfl) ?_
    refine lv_iload_n hx hb dX2_isLeftOf_11 rfl (lv_at hl 2 rfl) ?_
    refine vp_callSi (W.runV (As := [.int x2]) (rest := []) ⟨hx, hb, hml, hown, hts⟩ (m_X2_isScrapped l dC dI cI cZ a σ x2 h2) (cwV 1 hts (gV k_447 k_373 k_374 k_22 k_375) rfl rfl rfl (by decide +kernel) ⟨Nat.le_of_ble_eq_true rfl, Nat.le_of_ble_eq_true rfl⟩) (pv_ro (q := (RX2, TX2, 12)) (q0 := 7) (ci := 2) hK hP rfl rfl) rfl rfl hl.1 rfl (lv_room (Nat.le_of_ble_eq_true rfl)) dX2_isLeftOf_12 ⟨Nat.le_of_ble_eq_true rfl, Nat.le_of_ble_eq_true rfl⟩) (fun r hrr => ?_)
    subst hrr
    refine lv_if_ne (tgt := 22) hx hb dX2_isLeftOf_15 (by decide) (fun c_15_2 => ?_) (fun c_15_2 => ?_)
    · skip
      rw [if_neg c_15_2] at hw
      refine lv_iconst (v := 0) hx hb dX2_isLeftOf_22 (by decide) ?_
      exact W.zret (v := (0 : Int32)) (ty := .boolean) hx hb hr (by decide) (fun t ht hW => ⟨_, rfl, hw.symm.trans hR, ht⟩) (fun _ h => by cases h) dX2_isLeftOf_23
    · skip
      rw [if_pos c_15_2] at hw
      refine lv_iconst (v := 1) hx hb dX2_isLeftOf_18 (by decide) ?_
      refine lv_goto (tgt := 23) hx hb dX2_isLeftOf_19 (by decide) ?_
      exact W.zret (v := (1 : Int32)) (ty := .boolean) hx hb hr (by decide) (fun t ht hW => ⟨_, rfl, hw.symm.trans hR, ht⟩) (fun _ h => by cases h) dX2_isLeftOf_23
set_option maxHeartbeats 4000000 in
set_option maxRecDepth 100000 in
theorem m_X2_countLeftOf (l : Launch) (dC : Nat → ClassId) (dI : Nat → Nat → Nat) (cI cZ : ClassId) (a : Nat → Nat) (σ : St) (x1 : Int32) (hiv : IV σ) : Met l yX2_countLeftOf wsX2_countLeftOf ({ frames := 2, cells := 0, slots := 0, locals := 43 }) (pRo dC dI cI cZ a σ [.ref (a 7), .int x1]) (vp_Si (fun r => r = sp_countLeftOf σ x1)) 0 0 (fun _ => False) := by
  refine Met.ofW (cc := cX2_countLeftOf) (maxL := 4) (ret := (some .int)) (by decide) rfl ?_
  intro p e s m args below meth c s₁ B hml hv
  obtain ⟨rfl, hP, hK⟩ := hv
  have hx := B.exec
  have hb := B.bytes
  have hr := B.returns
  have hts := atoms_spec (ws := wsX2_countLeftOf) B.pre
  have hown : s.vm.findClass RX2 = some m.cls := findClass_of_methodNamed B.named
  have hlocks := B.notSynchronized
  have hl := lv_entry ([.ref (a 7), .int x1]) (n := 4) (Nat.le_of_ble_eq_true rfl)
  rw [lg_entry_eq]
  generalize (lg_sl ([.ref (a 7), .int x1]) ++ List.replicate (4 - (lg_sl ([.ref (a 7), .int x1])).length) Slot.unset).toArray = ls at hl ⊢
  have hl : lv_has ls 4 [(0, .ref (a 7)), (1, .int x1)] := hl
  obtain ⟨R, hR⟩ : ∃ z, z = sp_countLeftOf σ x1 := ⟨_, rfl⟩
  have hw := hR
  unfold sp_countLeftOf at hw
  have hle := iv_le hiv
  refine lv_iconst (v := 0) hx hb dX2_countLeftOf_0 (by decide) ?_
  refine lv_istore_n (lv' := [(2, .int (0 : Int32)), (0, .ref (a 7)), (1, .int x1)]) hx hb dX2_countLeftOf_1 rfl hl (by decide) rfl (fun ls hl => ?_)
  refine lv_iconst (v := 0) hx hb dX2_countLeftOf_2 (by decide) ?_
  refine lv_istore_n (lv' := [(3, .int (0 : Int32)), (2, .int (0 : Int32)), (0, .ref (a 7)), (1, .int x1)]) hx hb dX2_countLeftOf_3 rfl hl (by decide) rfl (fun ls hl => ?_)
  have loop : ∀ (n k : Nat) (x2 : Int32) (ls : Array Slot), k + n = cntN σ → lv_has ls 4 [(0, .ref (a 7)), (1, .int x1), (2, .int x2), (3, .int (nI k))] → R = sp_countLeftOf_4 σ x1 n k x2 → W p l e (headSpec wsX2_countLeftOf ({ frames := 2, cells := 0, slots := 0, locals := 43 })).room s m [.ref (a 7), .int x1].toArray below meth c s.heap [] 0 0 (MQ below (vp_Si (fun r => r = sp_countLeftOf σ x1)) [.ref (a 7), .int x1].toArray s 0 0 (fun _ => False)) (F0 m 4 ls []) := by
    intro n
    induction n with
    | zero =>
      intro k x2 ls hkn hl hw
      rw [sp_countLeftOf_4_0] at hw
      refine lv_iload_n hx hb dX2_countLeftOf_4 rfl (lv_at hl 3 rfl) ?_
      refine lv_aload_n hx hb dX2_countLeftOf_5 rfl (lv_at hl 0 rfl) ?_
      refine va_get (D := (dC, dI)) (ci := 2) (v := .int (σ 7 11)) (C := RX2) (T := TX2) (N := 12) hx hb hts (iwX2 _) hown hK hP 7 rfl rfl 11 (by decide) (hts _ (kc k_96)) (fun _ h9 => h9) rfl dX2_countLeftOf_6 ?_
      refine lv_icmp_ge (tgt := 30) hx hb dX2_countLeftOf_9 (by decide) (fun c_9_1 => ?_) (fun c_9_1 => ?_)
      · skip
        refine lv_iload_n hx hb dX2_countLeftOf_30 rfl (lv_at hl 2 rfl) ?_
        exact W.iret (v := x2) hx hb hr (fun t ht hW => ⟨_, rfl, hw.symm.trans hR, ht⟩) (fun _ h => by cases h) dX2_countLeftOf_31
      · skip
        exact absurd (lpE (iv_cnt hiv) hkn (by omega)) c_9_1
    | succ n ih =>
      intro k x2 ls hkn hl hw
      rw [sp_countLeftOf_4_s] at hw
      have hkf : vp_in (nI k) 40 := vp_in_nI (by omega) (by decide)
      refine lv_iload_n hx hb dX2_countLeftOf_4 rfl (lv_at hl 3 rfl) ?_
      refine lv_aload_n hx hb dX2_countLeftOf_5 rfl (lv_at hl 0 rfl) ?_
      refine va_get (D := (dC, dI)) (ci := 2) (v := .int (σ 7 11)) (C := RX2) (T := TX2) (N := 12) hx hb hts (iwX2 _) hown hK hP 7 rfl rfl 11 (by decide) (hts _ (kc k_96)) (fun _ h9 => h9) rfl dX2_countLeftOf_6 ?_
      refine lv_icmp_ge (tgt := 30) hx hb dX2_countLeftOf_9 (by decide) (fun c_9_2 => ?_) (fun c_9_2 => ?_)
      · skip
        exact absurd c_9_2 (lpB (iv_cnt hiv) hkn (by omega))
      · skip
        refine lv_aload_n hx hb dX2_countLeftOf_12 rfl (lv_at hl 0 rfl) ?_
        refine lv_iload_n hx hb dX2_countLeftOf_13 rfl (lv_at hl 1 rfl) ?_
        refine lv_iload_n hx hb dX2_countLeftOf_14 rfl (lv_at hl 3 rfl) ?_
        refine vp_callSi (W.runV (As := [.int x1, .int (nI k)]) (rest := []) ⟨hx, hb, hml, hown, hts⟩ (m_X2_isLeftOf l dC dI cI cZ a σ x1 (nI k) hkf) (cwV 2 hts (gV k_443 k_445 k_5 k_22 k_446) rfl rfl rfl (by decide +kernel) ⟨Nat.le_of_ble_eq_true rfl, Nat.le_of_ble_eq_true rfl⟩) (pv_ro (q := (RX2, TX2, 12)) (q0 := 7) (ci := 2) hK hP rfl rfl) rfl rfl hl.1 rfl (lv_room (Nat.le_of_ble_eq_true rfl)) dX2_countLeftOf_15 ⟨Nat.le_of_ble_eq_true rfl, Nat.le_of_ble_eq_true rfl⟩) (fun r hrr => ?_)
        subst hrr
        refine lv_if_eq (tgt := 24) hx hb dX2_countLeftOf_18 (by decide) (fun c_18_3 => ?_) (fun c_18_3 => ?_)
        · skip
          rw [if_pos c_18_3] at hw
          refine lv_iinc (v := (nI (k + 1))) (lv' := [(3, .int (nI (k + 1))), (0, .ref (a 7)), (1, .int x1), (2, .int x2)]) hx hb dX2_countLeftOf_24 hl (k := 3) rfl (nI_1 k) (by decide) rfl (fun ls hl => ?_)
          refine lv_goto (tgt := 4) hx hb dX2_countLeftOf_27 (by decide) ?_
          exact ih (k + 1) x2 ls (by omega) (lv_sub hl [1, 2, 3, 0] rfl) hw
        · skip
          rw [if_neg c_18_3] at hw
          refine lv_iinc (v := (x2 + (1 : Int32))) (lv' := [(2, .int (x2 + (1 : Int32))), (0, .ref (a 7)), (1, .int x1), (3, .int (nI k))]) hx hb dX2_countLeftOf_21 hl (k := 2) rfl rfl (by decide) rfl (fun ls hl => ?_)
          refine lv_iinc (v := (nI (k + 1))) (lv' := [(3, .int (nI (k + 1))), (2, .int (x2 + (1 : Int32))), (0, .ref (a 7)), (1, .int x1)]) hx hb dX2_countLeftOf_24 hl (k := 3) rfl (nI_1 k) (by decide) rfl (fun ls hl => ?_)
          refine lv_goto (tgt := 4) hx hb dX2_countLeftOf_27 (by decide) ?_
          exact ih (k + 1) (x2 + (1 : Int32)) ls (by omega) (lv_sub hl [2, 3, 1, 0] rfl) hw
  exact loop (cntN σ) 0 (0 : Int32) ls (Nat.zero_add _) (lv_sub hl [2, 3, 1, 0] rfl) hw
