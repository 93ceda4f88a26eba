set_option maxHeartbeats 4000000 in
set_option maxRecDepth 100000 in
theorem m_X2_findLeftOf (l : Launch) (dC : Nat → ClassId) (dI : Nat → Nat → Nat) (cI cZ : ClassId) (a : Nat → Nat) (σ : St) (x1 : Int32) (x2 : Int32) (hiv : IV σ) : Met l yX2_findLeftOf wsX2_findLeftOf ({ frames := 2, cells := 0, slots := 0, locals := 43 }) (pRo dC dI cI cZ a σ [.ref (a 7), .int x1, .int x2]) (vp_Si (fun r => r = sp_findLeftOf σ x1 x2)) 0 0 (fun _ => False) := by
  refine Met.ofW (cc := cX2_findLeftOf) (maxL := 5) (ret := (some .int)) (by decide) rfl ?_
  intro p e s m args below meth c s₁ B hml hv
  obtain ⟨rfl, hP, hK⟩ := hv
  have hx := B.exec
  have hb := B.bytes
  have hr := B.returns
  have hts := atoms_spec (ws := wsX2_findLeftOf) B.pre
  have hown : s.vm.findClass RX2 = some m.cls := findClass_of_methodNamed B.named
  have hlocks := B.notSynchronized
  have hl := lv_entry ([.ref (a 7), .int x1, .int x2]) (n := 5) (Nat.le_of_ble_eq_true rfl)
  rw [lg_entry_eq]
  generalize (lg_sl ([.ref (a 7), .int x1, .int x2]) ++ List.replicate (5 - (lg_sl ([.ref (a 7), .int x1, .int x2])).length) Slot.unset).toArray = ls at hl ⊢
  have hl : lv_has ls 5 [(0, .ref (a 7)), (1, .int x1), (2, .int x2)] := hl
  obtain ⟨R, hR⟩ : ∃ z, z = sp_findLeftOf σ x1 x2 := ⟨_, rfl⟩
  have hw := hR
  unfold sp_findLeftOf at hw
  have hle := iv_le hiv
  refine lv_iconst (v := 0) hx hb dX2_findLeftOf_0 (by decide) ?_
  refine lv_istore_n (lv' := [(3, .int (0 : Int32)), (0, .ref (a 7)), (1, .int x1), (2, .int x2)]) hx hb dX2_findLeftOf_1 rfl hl (by decide) rfl (fun ls hl => ?_)
  refine lv_iconst (v := 0) hx hb dX2_findLeftOf_2 (by decide) ?_
  refine lv_istore (lv' := [(4, .int (0 : Int32)), (3, .int (0 : Int32)), (0, .ref (a 7)), (1, .int x1), (2, .int x2)]) hx hb dX2_findLeftOf_3 hl (by decide) rfl (fun ls hl => ?_)
  have loop : ∀ (n k : Nat) (x3 : Int32) (ls : Array Slot), k + n = cntN σ → lv_has ls 5 [(0, .ref (a 7)), (1, .int x1), (2, .int x2), (3, .int x3), (4, .int (nI k))] → R = sp_findLeftOf_5 σ x1 x2 n k x3 → W p l e (headSpec wsX2_findLeftOf ({ frames := 2, cells := 0, slots := 0, locals := 43 })).room s m [.ref (a 7), .int x1, .int x2].toArray below meth c s.heap [] 0 0 (MQ below (vp_Si (fun r => r = sp_findLeftOf σ x1 x2)) [.ref (a 7), .int x1, .int x2].toArray s 0 0 (fun _ => False)) (F0 m 5 ls []) := by
    intro n
    induction n with
    | zero =>
      intro k x3 ls hkn hl hw
      rw [sp_findLeftOf_5_0] at hw
      refine lv_iload hx hb dX2_findLeftOf_5 (lv_at hl 4 rfl) ?_
      refine lv_aload_n hx hb dX2_findLeftOf_7 rfl (lv_at hl 0 rfl) ?_
      refine va_get (D := (dC, dI)) (ci := 2) (v := .int (σ 7 11)) (C := RX2) (T := TX2) (N := 12) hx hb hts (iwX2 _) hown hK hP 7 rfl rfl 11 (by decide) (hts _ (kc k_96)) (fun _ h9 => h9) rfl dX2_findLeftOf_8 ?_
      refine lv_icmp_ge (tgt := 41) hx hb dX2_findLeftOf_11 (by decide) (fun c_11_1 => ?_) (fun c_11_1 => ?_)
      · skip
        refine lv_iconst (v := -1) hx hb dX2_findLeftOf_41 (by decide) ?_
        exact W.iret (v := (-1 : Int32)) hx hb hr (fun t ht hW => ⟨_, rfl, hw.symm.trans hR, ht⟩) (fun _ h => by cases h) dX2_findLeftOf_42
      · skip
        exact absurd (lpE (iv_cnt hiv) hkn (by omega)) c_11_1
    | succ n ih =>
      intro k x3 ls hkn hl hw
      rw [sp_findLeftOf_5_s] at hw
      have hkf : vp_in (nI k) 40 := vp_in_nI (by omega) (by decide)
      refine lv_iload hx hb dX2_findLeftOf_5 (lv_at hl 4 rfl) ?_
      refine lv_aload_n hx hb dX2_findLeftOf_7 rfl (lv_at hl 0 rfl) ?_
      refine va_get (D := (dC, dI)) (ci := 2) (v := .int (σ 7 11)) (C := RX2) (T := TX2) (N := 12) hx hb hts (iwX2 _) hown hK hP 7 rfl rfl 11 (by decide) (hts _ (kc k_96)) (fun _ h9 => h9) rfl dX2_findLeftOf_8 ?_
      refine lv_icmp_ge (tgt := 41) hx hb dX2_findLeftOf_11 (by decide) (fun c_11_2 => ?_) (fun c_11_2 => ?_)
      · skip
        exact absurd c_11_2 (lpB (iv_cnt hiv) hkn (by omega))
      · skip
        refine lv_aload_n hx hb dX2_findLeftOf_14 rfl (lv_at hl 0 rfl) ?_
        refine lv_iload_n hx hb dX2_findLeftOf_15 rfl (lv_at hl 1 rfl) ?_
        refine lv_iload hx hb dX2_findLeftOf_16 (lv_at hl 4 rfl) ?_
        refine vp_callSi (W.runV (As := [.int x1, .int (nI k)]) (rest := []) ⟨hx, hb, hml, hown, hts⟩ (m_X2_isLeftOf l dC dI cI cZ a σ x1 (nI k) hkf) (cwV 2 hts (gV k_443 k_445 k_5 k_22 k_446) rfl rfl rfl (by decide +kernel) ⟨Nat.le_of_ble_eq_true rfl, Nat.le_of_ble_eq_true rfl⟩) (pv_ro (q := (RX2, TX2, 12)) (q0 := 7) (ci := 2) hK hP rfl rfl) rfl rfl hl.1 rfl (lv_room (Nat.le_of_ble_eq_true rfl)) dX2_findLeftOf_18 ⟨Nat.le_of_ble_eq_true rfl, Nat.le_of_ble_eq_true rfl⟩) (fun r hrr => ?_)
        subst hrr
        refine lv_if_eq (tgt := 35) hx hb dX2_findLeftOf_21 (by decide) (fun c_21_3 => ?_) (fun c_21_3 => ?_)
        · skip
          rw [if_pos c_21_3] at hw
          refine lv_iinc (v := (nI (k + 1))) (lv' := [(4, .int (nI (k + 1))), (0, .ref (a 7)), (1, .int x1), (2, .int x2), (3, .int x3)]) hx hb dX2_findLeftOf_35 hl (k := 4) rfl (nI_1 k) (by decide) rfl (fun ls hl => ?_)
          refine lv_goto (tgt := 5) hx hb dX2_findLeftOf_38 (by decide) ?_
          exact ih (k + 1) x3 ls (by omega) (lv_sub hl [1, 2, 3, 4, 0] rfl) hw
        · skip
          rw [if_neg c_21_3] at hw
          refine lv_iload_n hx hb dX2_findLeftOf_24 rfl (lv_at hl 3 rfl) ?_
          refine lv_iload_n hx hb dX2_findLeftOf_25 rfl (lv_at hl 2 rfl) ?_
          refine lv_icmp_ne (tgt := 32) hx hb dX2_findLeftOf_26 (by decide) (fun c_26_4 => ?_) (fun c_26_4 => ?_)
          · skip
            rw [if_neg c_26_4] at hw
            refine lv_iinc (v := (x3 + (1 : Int32))) (lv' := [(3, .int (x3 + (1 : Int32))), (0, .ref (a 7)), (1, .int x1), (2, .int x2), (4, .int (nI k))]) hx hb dX2_findLeftOf_32 hl (k := 3) rfl rfl (by decide) rfl (fun ls hl => ?_)
            refine lv_iinc (v := (nI (k + 1))) (lv' := [(4, .int (nI (k + 1))), (3, .int (x3 + (1 : Int32))), (0, .ref (a 7)), (1, .int x1), (2, .int x2)]) hx hb dX2_findLeftOf_35 hl (k := 4) rfl (nI_1 k) (by decide) rfl (fun ls hl => ?_)
            refine lv_goto (tgt := 5) hx hb dX2_findLeftOf_38 (by decide) ?_
            exact ih (k + 1) (x3 + (1 : Int32)) ls (by omega) (lv_sub hl [2, 3, 4, 1, 0] rfl) hw
          · skip
            rw [if_pos c_26_4] at hw
            refine lv_iload hx hb dX2_findLeftOf_29 (lv_at hl 4 rfl) ?_
            exact W.iret (v := nI k) hx hb hr (fun t ht hW => ⟨_, rfl, hw.symm.trans hR, ht⟩) (fun _ h => by cases h) dX2_findLeftOf_31
  exact loop (cntN σ) 0 (0 : Int32) ls (Nat.zero_add _) (lv_sub hl [2, 3, 4, 1, 0] rfl) hw
set_option maxHeartbeats 4000000 in
set_option maxRecDepth 100000 in
theorem m_X2_countScrapped (l : Launch) (dC : Nat → ClassId) (dI : Nat → Nat → Nat) (cI cZ : ClassId) (a : Nat → Nat) (σ : St) (x1 : Int32) (hiv : IV σ) : Met l yX2_countScrapped wsX2_countScrapped ({ frames := 1, cells := 0, slots := 0, locals := 21 }) (pRo dC dI cI cZ a σ [.ref (a 7), .int x1]) (vp_Si (fun r => r = sp_countScrapped σ x1)) 0 0 (fun _ => False) := by
  refine Met.ofW (cc := cX2_countScrapped) (maxL := 4) (ret := (some .int)) (by decide) rfl ?_
  intro p e s m args below meth c s₁ B hml hv
  obtain ⟨rfl, hP, hK⟩ := hv
  have hx := B.exec
  have hb := B.bytes
  have hr := B.returns
  have hts := atoms_spec (ws := wsX2_countScrapped) B.pre
  have hown : s.vm.findClass RX2 = some m.cls := findClass_of_methodNamed B.named
  have hlocks := B.notSynchronized
  have hl := lv_entry ([.ref (a 7), .int x1]) (n := 4) (Nat.le_of_ble_eq_true rfl)
  rw [lg_entry_eq]
  generalize (lg_sl ([.ref (a 7), .int x1]) ++ List.replicate (4 - (lg_sl ([.ref (a 7), .int x1])).length) Slot.unset).toArray = ls at hl ⊢
  have hl : lv_has ls 4 [(0, .ref (a 7)), (1, .int x1)] := hl
  obtain ⟨R, hR⟩ : ∃ z, z = sp_countScrapped σ x1 := ⟨_, rfl⟩
  have hw := hR
  unfold sp_countScrapped at hw
  have hle := iv_le hiv
  refine lv_iconst (v := 0) hx hb dX2_countScrapped_0 (by decide) ?_
  refine lv_istore_n (lv' := [(2, .int (0 : Int32)), (0, .ref (a 7)), (1, .int x1)]) hx hb dX2_countScrapped_1 rfl hl (by decide) rfl (fun ls hl => ?_)
  refine lv_iconst (v := 0) hx hb dX2_countScrapped_2 (by decide) ?_
  refine lv_istore_n (lv' := [(3, .int (0 : Int32)), (2, .int (0 : Int32)), (0, .ref (a 7)), (1, .int x1)]) hx hb dX2_countScrapped_3 rfl hl (by decide) rfl (fun ls hl => ?_)
  have loop : ∀ (n k : Nat) (x2 : Int32) (ls : Array Slot), k + n = cntN σ → lv_has ls 4 [(0, .ref (a 7)), (1, .int x1), (2, .int x2), (3, .int (nI k))] → R = sp_countScrapped_4 σ x1 n k x2 → W p l e (headSpec wsX2_countScrapped ({ frames := 1, cells := 0, slots := 0, locals := 21 })).room s m [.ref (a 7), .int x1].toArray below meth c s.heap [] 0 0 (MQ below (vp_Si (fun r => r = sp_countScrapped σ x1)) [.ref (a 7), .int x1].toArray s 0 0 (fun _ => False)) (F0 m 4 ls []) := by
    intro n
    induction n with
    | zero =>
      intro k x2 ls hkn hl hw
      rw [sp_countScrapped_4_0] at hw
      refine lv_iload_n hx hb dX2_countScrapped_4 rfl (lv_at hl 3 rfl) ?_
      refine lv_aload_n hx hb dX2_countScrapped_5 rfl (lv_at hl 0 rfl) ?_
      refine va_get (D := (dC, dI)) (ci := 2) (v := .int (σ 7 11)) (C := RX2) (T := TX2) (N := 12) hx hb hts (iwX2 _) hown hK hP 7 rfl rfl 11 (by decide) (hts _ (kc k_96)) (fun _ h9 => h9) rfl dX2_countScrapped_6 ?_
      refine lv_icmp_ge (tgt := 39) hx hb dX2_countScrapped_9 (by decide) (fun c_9_1 => ?_) (fun c_9_1 => ?_)
      · skip
        refine lv_iload_n hx hb dX2_countScrapped_39 rfl (lv_at hl 2 rfl) ?_
        exact W.iret (v := x2) hx hb hr (fun t ht hW => ⟨_, rfl, hw.symm.trans hR, ht⟩) (fun _ h => by cases h) dX2_countScrapped_40
      · skip
        exact absurd (lpE (iv_cnt hiv) hkn (by omega)) c_9_1
    | succ n ih =>
      intro k x2 ls hkn hl hw
      rw [sp_countScrapped_4_s] at hw
      have hkf : vp_in (nI k) 40 := vp_in_nI (by omega) (by decide)
      refine lv_iload_n hx hb dX2_countScrapped_4 rfl (lv_at hl 3 rfl) ?_
      refine lv_aload_n hx hb dX2_countScrapped_5 rfl (lv_at hl 0 rfl) ?_
      refine va_get (D := (dC, dI)) (ci := 2) (v := .int (σ 7 11)) (C := RX2) (T := TX2) (N := 12) hx hb hts (iwX2 _) hown hK hP 7 rfl rfl 11 (by decide) (hts _ (kc k_96)) (fun _ h9 => h9) rfl dX2_countScrapped_6 ?_
      refine lv_icmp_ge (tgt := 39) hx hb dX2_countScrapped_9 (by decide) (fun c_9_2 => ?_) (fun c_9_2 => ?_)
      · skip
        exact absurd c_9_2 (lpB (iv_cnt hiv) hkn (by omega))
      · skip
        refine lv_aload_n hx hb dX2_countScrapped_12 rfl (lv_at hl 0 rfl) ?_
        refine va_get (D := (dC, dI)) (ci := 2) (v := .ref (a 8)) (C := RX2) (T := TX2) (N := 12) hx hb hts (iwX2 _) hown hK hP 7 rfl rfl 0 (by decide) (hts _ (kc k_76)) (fun _ h9 => h9) rfl dX2_countScrapped_13 ?_
        refine lv_iload_n hx hb dX2_countScrapped_16 rfl (lv_at hl 3 rfl) ?_
        refine va_iald (D := (dC, dI)) (f := σ 8) hx hb hK hP 8 0 rfl rfl (i := nI k) hkf dX2_countScrapped_17 ?_
        refine lv_iload_n hx hb dX2_countScrapped_18 rfl (lv_at hl 1 rfl) ?_
        refine lv_icmp_ne (tgt := 33) hx hb dX2_countScrapped_19 (by decide) (fun c_19_3 => ?_) (fun c_19_3 => ?_)
        · skip
          rw [if_neg c_19_3] at hw
          refine lv_iinc (v := (nI (k + 1))) (lv' := [(3, .int (nI (k + 1))), (0, .ref (a 7)), (1, .int x1), (2, .int x2)]) hx hb dX2_countScrapped_33 hl (k := 3) rfl (nI_1 k) (by decide) rfl (fun ls hl => ?_)
          refine lv_goto (tgt := 4) hx hb dX2_countScrapped_36 (by decide) ?_
          exact ih (k + 1) x2 ls (by omega) (lv_sub hl [1, 2, 3, 0] rfl) hw
        · skip
          rw [if_pos c_19_3] at hw
          refine lv_aload_n hx hb dX2_countScrapped_22 rfl (lv_at hl 0 rfl) ?_
          refine lv_iload_n hx hb dX2_countScrapped_23 rfl (lv_at hl 3 rfl) ?_
          refine vp_callSi (W.runV (As := [.int (nI k)]) (rest := []) ⟨hx, hb, hml, hown, hts⟩ (m_X2_isScrapped l dC dI cI cZ a σ (nI k) hkf) (cwV 1 hts (gV k_447 k_373 k_374 k_22 k_375) rfl rfl rfl (by decide +kernel) ⟨Nat.le_of_ble_eq_true rfl, Nat.le_of_ble_eq_true rfl⟩) (pv_ro (q := (RX2, TX2, 12)) (q0 := 7) (ci := 2) hK hP rfl rfl) rfl rfl hl.1 rfl (lv_room (Nat.le_of_ble_eq_true rfl)) dX2_countScrapped_24 ⟨Nat.le_of_ble_eq_true rfl, Nat.le_of_ble_eq_true rfl⟩) (fun r hrr => ?_)
          subst hrr
          refine lv_if_eq (tgt := 33) hx hb dX2_countScrapped_27 (by decide) (fun c_27_4 => ?_) (fun c_27_4 => ?_)
          · skip
            rw [if_pos c_27_4] at hw
            refine lv_iinc (v := (nI (k + 1))) (lv' := [(3, .int (nI (k + 1))), (0, .ref (a 7)), (1, .int x1), (2, .int x2)]) hx hb dX2_countScrapped_33 hl (k := 3) rfl (nI_1 k) (by decide) rfl (fun ls hl => ?_)
            refine lv_goto (tgt := 4) hx hb dX2_countScrapped_36 (by decide) ?_
            exact ih (k + 1) x2 ls (by omega) (lv_sub hl [1, 2, 3, 0] rfl) hw
          · skip
            rw [if_neg c_27_4] at hw
            refine lv_iinc (v := (x2 + (1 : Int32))) (lv' := [(2, .int (x2 + (1 : Int32))), (0, .ref (a 7)), (1, .int x1), (3, .int (nI k))]) hx hb dX2_countScrapped_30 hl (k := 2) rfl rfl (by decide) rfl (fun ls hl => ?_)
            refine lv_iinc (v := (nI (k + 1))) (lv' := [(3, .int (nI (k + 1))), (2, .int (x2 + (1 : Int32))), (0, .ref (a 7)), (1, .int x1)]) hx hb dX2_countScrapped_33 hl (k := 3) rfl (nI_1 k) (by decide) rfl (fun ls hl => ?_)
            refine lv_goto (tgt := 4) hx hb dX2_countScrapped_36 (by decide) ?_
            exact ih (k + 1) (x2 + (1 : Int32)) ls (by omega) (lv_sub hl [2, 3, 1, 0] rfl) hw
  exact loop (cntN σ) 0 (0 : Int32) ls (Nat.zero_add _) (lv_sub hl [2, 3, 1, 0] rfl) hw
set_option maxHeartbeats 4000000 in
set_option maxRecDepth 100000 in
theorem m_X2_sumOfLives (l : Launch) (dC : Nat → ClassId) (dI : Nat → Nat → Nat) (cI cZ : ClassId) (a : Nat → Nat) (σ : St) (x1 : Int32) (hiv : IV σ) : Met l yX2_sumOfLives wsX2_sumOfLives ({ frames := 1, cells := 0, slots := 0, locals := 21 }) (pRo dC dI cI cZ a σ [.ref (a 7), .int x1]) (vp_Si (fun r => r = sp_sumOfLives σ x1)) 0 0 (fun _ => False) := by
  refine Met.ofW (cc := cX2_sumOfLives) (maxL := 4) (ret := (some .int)) (by decide) rfl ?_
  intro p e s m args below meth c s₁ B hml hv
  obtain ⟨rfl, hP, hK⟩ := hv
  have hx := B.exec
  have hb := B.bytes
  have hr := B.returns
  have hts := atoms_spec (ws := wsX2_sumOfLives) B.pre
  have hown : s.vm.findClass RX2 = some m.cls := findClass_of_methodNamed B.named
  have hlocks := B.notSynchronized
  have hl := lv_entry ([.ref (a 7), .int x1]) (n := 4) (Nat.le_of_ble_eq_true rfl)
  rw [lg_entry_eq]
  generalize (lg_sl ([.ref (a 7), .int x1]) ++ List.replicate (4 - (lg_sl ([.ref (a 7), .int x1])).length) Slot.unset).toArray = ls at hl ⊢
  have hl : lv_has ls 4 [(0, .ref (a 7)), (1, .int x1)] := hl
  obtain ⟨R, hR⟩ : ∃ z, z = sp_sumOfLives σ x1 := ⟨_, rfl⟩
  have hw := hR
  unfold sp_sumOfLives at hw
  have hle := iv_le hiv
  refine lv_iconst (v := 0) hx hb dX2_sumOfLives_0 (by decide) ?_
  refine lv_istore_n (lv' := [(2, .int (0 : Int32)), (0, .ref (a 7)), (1, .int x1)]) hx hb dX2_sumOfLives_1 rfl hl (by decide) rfl (fun ls hl => ?_)
  refine lv_iconst (v := 0) hx hb dX2_sumOfLives_2 (by decide) ?_
  refine lv_istore_n (lv' := [(3, .int (0 : Int32)), (2, .int (0 : Int32)), (0, .ref (a 7)), (1, .int x1)]) hx hb dX2_sumOfLives_3 rfl hl (by decide) rfl (fun ls hl => ?_)
  have loop : ∀ (n k : Nat) (x2 : Int32) (ls : Array Slot), k + n = cntN σ → lv_has ls 4 [(0, .ref (a 7)), (1, .int x1), (2, .int x2), (3, .int (nI k))] → R = sp_sumOfLives_4 σ x1 n k x2 → W p l e (headSpec wsX2_sumOfLives ({ frames := 1, cells := 0, slots := 0, locals := 21 })).room s m [.ref (a 7), .int x1].toArray below meth c s.heap [] 0 0 (MQ below (vp_Si (fun r => r = sp_sumOfLives σ x1)) [.ref (a 7), .int x1].toArray s 0 0 (fun _ => False)) (F0 m 4 ls []) := by
    intro n
    induction n with
    | zero =>
      intro k x2 ls hkn hl hw
      rw [sp_sumOfLives_4_0] at hw
      refine lv_iload_n hx hb dX2_sumOfLives_4 rfl (lv_at hl 3 rfl) ?_
      refine lv_aload_n hx hb dX2_sumOfLives_5 rfl (lv_at hl 0 rfl) ?_
      refine va_get (D := (dC, dI)) (ci := 2) (v := .int (σ 7 11)) (C := RX2) (T := TX2) (N := 12) hx hb hts (iwX2 _) hown hK hP 7 rfl rfl 11 (by decide) (hts _ (kc k_96)) (fun _ h9 => h9) rfl dX2_sumOfLives_6 ?_
      refine lv_icmp_ge (tgt := 52) hx hb dX2_sumOfLives_9 (by decide) (fun c_9_1 => ?_) (fun c_9_1 => ?_)
      · skip
        refine lv_iload_n hx hb dX2_sumOfLives_52 rfl (lv_at hl 2 rfl) ?_
        exact W.iret (v := x2) hx hb hr (fun t ht hW => ⟨_, rfl, hw.symm.trans hR, ht⟩) (fun _ h => by cases h) dX2_sumOfLives_53
      · skip
        exact absurd (lpE (iv_cnt hiv) hkn (by omega)) c_9_1
    | succ n ih =>
      intro k x2 ls hkn hl hw
      rw [sp_sumOfLives_4_s] at hw
      have hkf : vp_in (nI k) 40 := vp_in_nI (by omega) (by decide)
      refine lv_iload_n hx hb dX2_sumOfLives_4 rfl (lv_at hl 3 rfl) ?_
      refine lv_aload_n hx hb dX2_sumOfLives_5 rfl (lv_at hl 0 rfl) ?_
      refine va_get (D := (dC, dI)) (ci := 2) (v := .int (σ 7 11)) (C := RX2) (T := TX2) (N := 12) hx hb hts (iwX2 _) hown hK hP 7 rfl rfl 11 (by decide) (hts _ (kc k_96)) (fun _ h9 => h9) rfl dX2_sumOfLives_6 ?_
      refine lv_icmp_ge (tgt := 52) hx hb dX2_sumOfLives_9 (by decide) (fun c_9_2 => ?_) (fun c_9_2 => ?_)
      · skip
        exact absurd c_9_2 (lpB (iv_cnt hiv) hkn (by omega))
      · skip
        refine lv_aload_n hx hb dX2_sumOfLives_12 rfl (lv_at hl 0 rfl) ?_
        refine va_get (D := (dC, dI)) (ci := 2) (v := .ref (a 8)) (C := RX2) (T := TX2) (N := 12) hx hb hts (iwX2 _) hown hK hP 7 rfl rfl 0 (by decide) (hts _ (kc k_76)) (fun _ h9 => h9) rfl dX2_sumOfLives_13 ?_
        refine lv_iload_n hx hb dX2_sumOfLives_16 rfl (lv_at hl 3 rfl) ?_
        refine va_iald (D := (dC, dI)) (f := σ 8) hx hb hK hP 8 0 rfl rfl (i := nI k) hkf dX2_sumOfLives_17 ?_
        refine lv_iload_n hx hb dX2_sumOfLives_18 rfl (lv_at hl 1 rfl) ?_
        refine lv_icmp_ne (tgt := 46) hx hb dX2_sumOfLives_19 (by decide) (fun c_19_3 => ?_) (fun c_19_3 => ?_)
        · skip
          rw [if_neg c_19_3] at hw
          refine lv_iinc (v := (nI (k + 1))) (lv' := [(3, .int (nI (k + 1))), (0, .ref (a 7)), (1, .int x1), (2, .int x2)]) hx hb dX2_sumOfLives_46 hl (k := 3) rfl (nI_1 k) (by decide) rfl (fun ls hl => ?_)
          refine lv_goto (tgt := 4) hx hb dX2_sumOfLives_49 (by decide) ?_
          exact ih (k + 1) x2 ls (by omega) (lv_sub hl [1, 2, 3, 0] rfl) hw
        · skip
          rw [if_pos c_19_3] at hw
          refine lv_aload_n hx hb dX2_sumOfLives_22 rfl (lv_at hl 0 rfl) ?_
          refine lv_iload_n hx hb dX2_sumOfLives_23 rfl (lv_at hl 3 rfl) ?_
          refine vp_callSi (W.runV (As := [.int (nI k)]) (rest := []) ⟨hx, hb, hml, hown, hts⟩ (m_X2_isScrapped l dC dI cI cZ a σ (nI k) hkf) (cwV 1 hts (gV k_447 k_373 k_374 k_22 k_375) rfl rfl rfl (by decide +kernel) ⟨Nat.le_of_ble_eq_true rfl, Nat.le_of_ble_eq_true rfl⟩) (pv_ro (q := (RX2, TX2, 12)) (q0 := 7) (ci := 2) hK hP rfl rfl) rfl rfl hl.1 rfl (lv_room (Nat.le_of_ble_eq_true rfl)) dX2_sumOfLives_24 ⟨Nat.le_of_ble_eq_true rfl, Nat.le_of_ble_eq_true rfl⟩) (fun r hrr => ?_)
          subst hrr
          refine lv_if_eq (tgt := 46) hx hb dX2_sumOfLives_27 (by decide) (fun c_27_4 => ?_) (fun c_27_4 => ?_)
          · skip
            rw [if_pos c_27_4] at hw
            refine lv_iinc (v := (nI (k + 1))) (lv' := [(3, .int (nI (k + 1))), (0, .ref (a 7)), (1, .int x1), (2, .int x2)]) hx hb dX2_sumOfLives_46 hl (k := 3) rfl (nI_1 k) (by decide) rfl (fun ls hl => ?_)
            refine lv_goto (tgt := 4) hx hb dX2_sumOfLives_49 (by decide) ?_
            exact ih (k + 1) x2 ls (by omega) (lv_sub hl [1, 2, 3, 0] rfl) hw
          · skip
            rw [if_neg c_27_4] at hw
            refine lv_iload_n hx hb dX2_sumOfLives_30 rfl (lv_at hl 2 rfl) ?_
            refine lv_aload_n hx hb dX2_sumOfLives_31 rfl (lv_at hl 0 rfl) ?_
            refine va_get (D := (dC, dI)) (ci := 2) (v := .ref (a 13)) (C := RX2) (T := TX2) (N := 12) hx hb hts (iwX2 _) hown hK hP 7 rfl rfl 5 (by decide) (hts _ (kc k_85)) (fun _ h9 => h9) rfl dX2_sumOfLives_32 ?_
            refine lv_iload_n hx hb dX2_sumOfLives_35 rfl (lv_at hl 3 rfl) ?_
            refine va_iald (D := (dC, dI)) (f := σ 13) hx hb hK hP 13 0 rfl rfl (i := nI k) hkf dX2_sumOfLives_36 ?_
            refine lv_aload_n hx hb dX2_sumOfLives_37 rfl (lv_at hl 0 rfl) ?_
            refine va_get (D := (dC, dI)) (ci := 2) (v := .ref (a 12)) (C := RX2) (T := TX2) (N := 12) hx hb hts (iwX2 _) hown hK hP 7 rfl rfl 4 (by decide) (hts _ (kc k_83)) (fun _ h9 => h9) rfl dX2_sumOfLives_38 ?_
            refine lv_iload_n hx hb dX2_sumOfLives_41 rfl (lv_at hl 3 rfl) ?_
            refine va_iald (D := (dC, dI)) (f := σ 12) hx hb hK hP 12 0 rfl rfl (i := nI k) hkf dX2_sumOfLives_42 ?_
            refine lv_isub hx hb dX2_sumOfLives_43 ?_
            refine lv_iadd hx hb dX2_sumOfLives_44 ?_
            refine lv_istore_n (lv' := [(2, .int (x2 + ((σ 13 (nI k).toNatClampNeg) - (σ 12 (nI k).toNatClampNeg)))), (0, .ref (a 7)), (1, .int x1), (3, .int (nI k))]) hx hb dX2_sumOfLives_45 rfl hl (by decide) rfl (fun ls hl => ?_)
            refine lv_iinc (v := (nI (k + 1))) (lv' := [(3, .int (nI (k + 1))), (2, .int (x2 + ((σ 13 (nI k).toNatClampNeg) - (σ 12 (nI k).toNatClampNeg)))), (0, .ref (a 7)), (1, .int x1)]) hx hb dX2_sumOfLives_46 hl (k := 3) rfl (nI_1 k) (by decide) rfl (fun ls hl => ?_)
            refine lv_goto (tgt := 4) hx hb dX2_sumOfLives_49 (by decide) ?_
            exact ih (k + 1) (x2 + ((σ 13 (nI k).toNatClampNeg) - (σ 12 (nI k).toNatClampNeg))) ls (by omega) (lv_sub hl [2, 3, 1, 0] rfl) hw
  exact loop (cntN σ) 0 (0 : Int32) ls (Nat.zero_add _) (lv_sub hl [2, 3, 1, 0] rfl) hw
set_option maxHeartbeats 4000000 in
set_option maxRecDepth 100000 in
theorem m_X2_add (l : Launch) (dC : Nat → ClassId) (dI : Nat → Nat → Nat) (cI cZ : ClassId) (a : Nat → Nat) (sz : Nat) (σ : St) (x1 : Int32) (x2 : Int32) (x3 : Int32) (x4 : Int32) (x5 : Int32) (h6 : vp_in (σ 7 11) 40) : Met l yX2_add wsX2_add ({ frames := 0, cells := 0, slots := 0, locals := 0 }) (pMu dC dI cI cZ a sz σ [.ref (a 7), .int x1, .int x2, .int x3, .int x4, .int x5]) (va_Qi (fun r σ9 => (r, σ9) = sp_add σ x1 x2 x3 x4 x5) (bMu dC dI cI cZ a (va_A (cw cI cZ a σ) sz)) (va_A (cw cI cZ a σ) sz)) 0 0 (va_A (cw cI cZ a σ) sz) := by
  refine Met.ofW (cc := cX2_add) (maxL := 8) (ret := (some .int)) (by decide) rfl ?_
  intro p e s m args below meth c s₁ B hml hv
  obtain ⟨rfl, hsz, hP, hK, hD0⟩ := hv
  have hx := B.exec
  have hb := B.bytes
  have hr := B.returns
  have hts := atoms_spec (ws := wsX2_add) B.pre
  have hown : s.vm.findClass RX2 = some m.cls := findClass_of_methodNamed B.named
  have hlocks := B.notSynchronized
  subst hsz
  have hD := hD0.self (sz := s.heap.size)
  generalize hAe : va_A (cw cI cZ a σ) s.heap.size = A at hD ⊢
  have hA : ∀ q : Nat, s.heap.size ≤ q → A q := fun q h => by rw [← hAe]; exact Or.inr h
  clear hAe hD0
  obtain ⟨H, hHe⟩ : ∃ z, z = s.heap := ⟨_, rfl⟩
  obtain ⟨locs, hLe⟩ : ∃ z : List Loc, z = [] := ⟨_, rfl⟩
  have hS : va_S A s.heap H locs := by rw [hHe, hLe]; exact va_S.rf
  have hP : va_P (dC, dI) vwCl (cw cI cZ a σ) H := by rw [hHe]; exact hP
  refine W_ofH hHe hLe ?_
  clear hHe hLe
  have hl := lv_entry ([.ref (a 7), .int x1, .int x2, .int x3, .int x4, .int x5]) (n := 8) (Nat.le_of_ble_eq_true rfl)
  rw [lg_entry_eq]
  generalize (lg_sl ([.ref (a 7), .int x1, .int x2, .int x3, .int x4, .int x5]) ++ List.replicate (8 - (lg_sl ([.ref (a 7), .int x1, .int x2, .int x3, .int x4, .int x5])).length) Slot.unset).toArray = ls at hl ⊢
  have hl : lv_has ls 8 [(0, .ref (a 7)), (1, .int x1), (2, .int x2), (3, .int x3), (4, .int x4), (5, .int x5)] := hl
  obtain ⟨R, hR⟩ : ∃ z, z = sp_add σ x1 x2 x3 x4 x5 := ⟨_, rfl⟩
  have hw := hR
  unfold sp_add at hw
  refine lv_aload_n hx hb dX2_add_0 rfl (lv_at hl 0 rfl) ?_
  refine va_get (D := (dC, dI)) (ci := 2) (v := .int (σ 7 11)) (C := RX2) (T := TX2) (N := 12) hx hb hts (iwX2 _) hown hK hP 7 rfl rfl 11 (by decide) (hts _ (kc k_96)) (fun _ h9 => h9) rfl dX2_add_1 ?_
  refine lv_istore (lv' := [(6, .int (σ 7 11)), (0, .ref (a 7)), (1, .int x1), (2, .int x2), (3, .int x3), (4, .int x4), (5, .int x5)]) hx hb dX2_add_4 hl (by decide) rfl (fun ls hl => ?_)
  refine lv_aload_n hx hb dX2_add_6 rfl (lv_at hl 1 rfl) ?_
  refine va_get (D := (dC, dI)) (ci := 2) (v := .ref (a 8)) (C := RX2) (T := TX2) (N := 12) hx hb hts (iwX2 _) hown hK hP 7 rfl rfl 0 (by decide) (hts _ (kc k_76)) (fun _ h9 => h9) rfl dX2_add_7 ?_
  refine lv_iload hx hb dX2_add_10 (lv_at hl 0 rfl) ?_
  refine lv_iload_n hx hb dX2_add_12 rfl (lv_at hl 2 rfl) ?_
  refine va_iast (D := (dC, dI)) (f := σ 8) hx hb hK hP hD hS 8 0 rfl rfl (i := σ 7 11) (x := x1) h6 dX2_add_13 (fun H locs hP hD hS => ?_)
  obtain ⟨σ_1, eσ_1⟩ : ∃ z : St, z = su σ 8 ((σ 7 11).toNatClampNeg) x1 := ⟨_, rfl⟩
  replace hP := P_cw_8 hP
  replace hD := D_cw_8 hD
  rw [← eσ_1] at hP hD
  replace hw : R = (let σ_2 : St := su σ_1 9 ((σ 7 11).toNatClampNeg) x2; let σ_3 : St := su σ_2 10 ((σ 7 11).toNatClampNeg) x3; let σ_4 : St := su σ_3 11 ((σ 7 11).toNatClampNeg) x4; let σ_5 : St := su σ_4 12 ((σ 7 11).toNatClampNeg) x5; let σ_6 : St := su σ_5 13 ((σ 7 11).toNatClampNeg) (-1 : Int32); sp_add_59 σ x1 x2 x3 x4 x5 σ_6 3 0) := by subst eσ_1; exact hw
  refine lv_aload_n hx hb dX2_add_14 rfl (lv_at hl 1 rfl) ?_
  refine va_get (D := (dC, dI)) (ci := 2) (v := .ref (a 9)) (C := RX2) (T := TX2) (N := 12) hx hb hts (iwX2 _) hown hK hP 7 rfl rfl 1 (by decide) (hts _ (kc k_78)) (fun _ h9 => h9) rfl dX2_add_15 ?_
  refine lv_iload hx hb dX2_add_18 (lv_at hl 0 rfl) ?_
  refine lv_iload_n hx hb dX2_add_20 rfl (lv_at hl 3 rfl) ?_
  refine va_iast (D := (dC, dI)) (f := σ_1 9) hx hb hK hP hD hS 9 0 rfl rfl (i := σ 7 11) (x := x2) h6 dX2_add_21 (fun H locs hP hD hS => ?_)
  obtain ⟨σ_2, eσ_2⟩ : ∃ z : St, z = su σ_1 9 ((σ 7 11).toNatClampNeg) x2 := ⟨_, rfl⟩
  replace hP := P_cw_9 hP
  replace hD := D_cw_9 hD
  rw [← eσ_2] at hP hD
  replace hw : R = (let σ_3 : St := su σ_2 10 ((σ 7 11).toNatClampNeg) x3; let σ_4 : St := su σ_3 11 ((σ 7 11).toNatClampNeg) x4; let σ_5 : St := su σ_4 12 ((σ 7 11).toNatClampNeg) x5; let σ_6 : St := su σ_5 13 ((σ 7 11).toNatClampNeg) (-1 : Int32); sp_add_59 σ x1 x2 x3 x4 x5 σ_6 3 0) := by subst eσ_2; exact hw
  refine lv_aload_n hx hb dX2_add_22 rfl (lv_at hl 1 rfl) ?_
  refine va_get (D := (dC, dI)) (ci := 2) (v := .ref (a 10)) (C := RX2) (T := TX2) (N := 12) hx hb hts (iwX2 _) hown hK hP 7 rfl rfl 2 (by decide) (hts _ (kc k_79)) (fun _ h9 => h9) rfl dX2_add_23 ?_
  refine lv_iload hx hb dX2_add_26 (lv_at hl 0 rfl) ?_
  refine lv_iload_n hx hb dX2_add_28 rfl (lv_at hl 4 rfl) ?_
  refine va_iast (D := (dC, dI)) (f := σ_2 10) hx hb hK hP hD hS 10 0 rfl rfl (i := σ 7 11) (x := x3) h6 dX2_add_29 (fun H locs hP hD hS => ?_)
  obtain ⟨σ_3, eσ_3⟩ : ∃ z : St, z = su σ_2 10 ((σ 7 11).toNatClampNeg) x3 := ⟨_, rfl⟩
  replace hP := P_cw_10 hP
  replace hD := D_cw_10 hD
  rw [← eσ_3] at hP hD
  replace hw : R = (let σ_4 : St := su σ_3 11 ((σ 7 11).toNatClampNeg) x4; let σ_5 : St := su σ_4 12 ((σ 7 11).toNatClampNeg) x5; let σ_6 : St := su σ_5 13 ((σ 7 11).toNatClampNeg) (-1 : Int32); sp_add_59 σ x1 x2 x3 x4 x5 σ_6 3 0) := by subst eσ_3; exact hw
  refine lv_aload_n hx hb dX2_add_30 rfl (lv_at hl 1 rfl) ?_
  refine va_get (D := (dC, dI)) (ci := 2) (v := .ref (a 11)) (C := RX2) (T := TX2) (N := 12) hx hb hts (iwX2 _) hown hK hP 7 rfl rfl 3 (by decide) (hts _ (kc k_81)) (fun _ h9 => h9) rfl dX2_add_31 ?_
  refine lv_iload hx hb dX2_add_34 (lv_at hl 0 rfl) ?_
  refine lv_iload hx hb dX2_add_36 (lv_at hl 5 rfl) ?_
  refine va_iast (D := (dC, dI)) (f := σ_3 11) hx hb hK hP hD hS 11 0 rfl rfl (i := σ 7 11) (x := x4) h6 dX2_add_38 (fun H locs hP hD hS => ?_)
  obtain ⟨σ_4, eσ_4⟩ : ∃ z : St, z = su σ_3 11 ((σ 7 11).toNatClampNeg) x4 := ⟨_, rfl⟩
  replace hP := P_cw_11 hP
  replace hD := D_cw_11 hD
  rw [← eσ_4] at hP hD
  replace hw : R = (let σ_5 : St := su σ_4 12 ((σ 7 11).toNatClampNeg) x5; let σ_6 : St := su σ_5 13 ((σ 7 11).toNatClampNeg) (-1 : Int32); sp_add_59 σ x1 x2 x3 x4 x5 σ_6 3 0) := by subst eσ_4; exact hw
  refine lv_aload_n hx hb dX2_add_39 rfl (lv_at hl 1 rfl) ?_
  refine va_get (D := (dC, dI)) (ci := 2) (v := .ref (a 12)) (C := RX2) (T := TX2) (N := 12) hx hb hts (iwX2 _) hown hK hP 7 rfl rfl 4 (by decide) (hts _ (kc k_83)) (fun _ h9 => h9) rfl dX2_add_40 ?_
  refine lv_iload hx hb dX2_add_43 (lv_at hl 0 rfl) ?_
  refine lv_iload hx hb dX2_add_45 (lv_at hl 6 rfl) ?_
  refine va_iast (D := (dC, dI)) (f := σ_4 12) hx hb hK hP hD hS 12 0 rfl rfl (i := σ 7 11) (x := x5) h6 dX2_add_47 (fun H locs hP hD hS => ?_)
  obtain ⟨σ_5, eσ_5⟩ : ∃ z : St, z = su σ_4 12 ((σ 7 11).toNatClampNeg) x5 := ⟨_, rfl⟩
  replace hP := P_cw_12 hP
  replace hD := D_cw_12 hD
  rw [← eσ_5] at hP hD
  replace hw : R = (let σ_6 : St := su σ_5 13 ((σ 7 11).toNatClampNeg) (-1 : Int32); sp_add_59 σ x1 x2 x3 x4 x5 σ_6 3 0) := by subst eσ_5; exact hw
  refine lv_aload_n hx hb dX2_add_48 rfl (lv_at hl 1 rfl) ?_
  refine va_get (D := (dC, dI)) (ci := 2) (v := .ref (a 13)) (C := RX2) (T := TX2) (N := 12) hx hb hts (iwX2 _) hown hK hP 7 rfl rfl 5 (by decide) (hts _ (kc k_85)) (fun _ h9 => h9) rfl dX2_add_49 ?_
  refine lv_iload hx hb dX2_add_52 (lv_at hl 0 rfl) ?_
  refine lv_iconst (v := -1) hx hb dX2_add_54 (by decide) ?_
  refine va_iast (D := (dC, dI)) (f := σ_5 13) hx hb hK hP hD hS 13 0 rfl rfl (i := σ 7 11) (x := (-1 : Int32)) h6 dX2_add_55 (fun H locs hP hD hS => ?_)
  obtain ⟨σ_6, eσ_6⟩ : ∃ z : St, z = su σ_5 13 ((σ 7 11).toNatClampNeg) (-1 : Int32) := ⟨_, rfl⟩
  replace hP := P_cw_13 hP
  replace hD := D_cw_13 hD
  rw [← eσ_6] at hP hD
  replace hw : R = (sp_add_59 σ x1 x2 x3 x4 x5 σ_6 3 0) := by subst eσ_6; exact hw
  refine lv_iconst (v := 0) hx hb dX2_add_56 (by decide) ?_
  refine lv_istore (lv' := [(7, .int (0 : Int32)), (6, .int (σ 7 11)), (0, .ref (a 7)), (1, .int x1), (2, .int x2), (3, .int x3), (4, .int x4), (5, .int x5)]) hx hb dX2_add_57 hl (by decide) rfl (fun ls hl => ?_)
  have loop : ∀ (n k : Nat) (σ1 : St) (H : Heap) (locs : List Loc) (ls : Array Slot), k + n = 3 → va_P (dC, dI) vwCl (cw cI cZ a σ1) H → va_D A (cw cI cZ a σ1) → va_S A s.heap H locs → lv_has ls 8 [(0, .ref (a 7)), (1, .int x1), (2, .int x2), (3, .int x3), (4, .int x4), (5, .int x5), (6, .int (σ 7 11)), (7, .int (nI k))] → R = sp_add_59 σ x1 x2 x3 x4 x5 σ1 n k → W p l e (headSpec wsX2_add ({ frames := 0, cells := 0, slots := 0, locals := 0 })).room s m [.ref (a 7), .int x1, .int x2, .int x3, .int x4, .int x5].toArray below meth c H locs 0 0 (MQ below (va_Qi (fun r σ9 => (r, σ9) = sp_add σ x1 x2 x3 x4 x5) (bMu dC dI cI cZ a A) A) [.ref (a 7), .int x1, .int x2, .int x3, .int x4, .int x5].toArray s 0 0 A) (F0 m 59 ls []) := by
    intro n
    induction n with
    | zero =>
      intro k σ1 H locs ls hkn hP hD hS hl hw
      rw [sp_add_59_0] at hw
      refine lv_iload hx hb dX2_add_59 (lv_at hl 7 rfl) ?_
      refine lv_iconst (v := 3) hx hb dX2_add_61 (by decide) ?_
      refine lv_icmp_ge (tgt := 85) hx hb dX2_add_62 (by decide) (fun c_62_7 => ?_) (fun c_62_7 => ?_)
      · skip
        refine lv_aload_n hx hb dX2_add_85 rfl (lv_at hl 0 rfl) ?_
        refine lv_dup hx hb dX2_add_86 rfl ?_
        refine va_get (D := (dC, dI)) (ci := 2) (v := .int (σ1 7 11)) (C := RX2) (T := TX2) (N := 12) hx hb hts (iwX2 _) hown hK hP 7 rfl rfl 11 (by decide) (hts _ (kc k_96)) (fun _ h9 => h9) rfl dX2_add_87 ?_
        refine lv_iconst (v := 1) hx hb dX2_add_90 (by decide) ?_
        refine lv_iadd hx hb dX2_add_91 ?_
        refine va_put (D := (dC, dI)) (ci := 2) (v := .int ((σ1 7 11) + (1 : Int32))) (ty := .int) (C := RX2) (T := TX2) (N := 12) hx hb hts (iwX2 _) tyX2 tyX2_ok nmX2 hown hK hP hD hS 7 rfl rfl 11 (by decide) (hts _ (kc k_96)) (fun _ h9 => h9) rfl (by decide +kernel) rfl rfl (Nat.le_of_ble_eq_true rfl) dX2_add_92 (fun H locs hP hD hS => ?_)
        obtain ⟨σ_8, eσ_8⟩ : ∃ z : St, z = su σ1 7 11 ((σ1 7 11) + (1 : Int32)) := ⟨_, rfl⟩
        replace hP := P_cw_7_11 hP
        replace hD := D_cw_7_11 hD
        rw [← eσ_8] at hP hD
        replace hw : R = ((σ 7 11, σ_8)) := by subst eσ_8; exact hw
        refine lv_iload hx hb dX2_add_95 (lv_at hl 6 rfl) ?_
        exact W.iret (v := σ 7 11) hx hb hr (fun t ht hW => ⟨⟨σ 7 11, σ_8, rfl, hw.symm.trans hR, by rw [ht]; exact hP, va_K.moved hW.alike hK, hD⟩, hS.F ht⟩) hS.2.2 dX2_add_97
      · skip
        exact absurd (lpE ht_3 hkn (by omega)) c_62_7
    | succ n ih =>
      intro k σ1 H locs ls hkn hP hD hS hl hw
      rw [sp_add_59_s] at hw
      have hkf : vp_in (nI k) 3 := vp_in_nI (by omega) (by decide)
      refine lv_iload hx hb dX2_add_59 (lv_at hl 7 rfl) ?_
      refine lv_iconst (v := 3) hx hb dX2_add_61 (by decide) ?_
      refine lv_icmp_ge (tgt := 85) hx hb dX2_add_62 (by decide) (fun c_62_9 => ?_) (fun c_62_9 => ?_)
      · skip
        exact absurd c_62_9 (lpB ht_3 hkn (by omega))
      · skip
        refine lv_aload_n hx hb dX2_add_65 rfl (lv_at hl 0 rfl) ?_
        refine va_get (D := (dC, dI)) (ci := 2) (v := .ref (a 16)) (C := RX2) (T := TX2) (N := 12) hx hb hts (iwX2 _) hown hK hP 7 rfl rfl 8 (by decide) (hts _ (kc k_91)) (fun _ h9 => h9) rfl dX2_add_66 ?_
        refine lv_iload hx hb dX2_add_69 (lv_at hl 6 rfl) ?_
        refine lv_iconst (v := 3) hx hb dX2_add_71 (by decide) ?_
        refine lv_imul hx hb dX2_add_72 ?_
        refine lv_iload hx hb dX2_add_73 (lv_at hl 7 rfl) ?_
        refine lv_iadd hx hb dX2_add_75 ?_
        refine lv_iload hx hb dX2_add_76 (lv_at hl 5 rfl) ?_
        refine va_iast (D := (dC, dI)) (f := σ1 16) hx hb hK hP hD hS 16 0 rfl rfl (i := ((σ 7 11) * (3 : Int32)) + (nI k)) (x := x5) (in_m3 (n := 40) h6 hkf (by decide) (by decide)) dX2_add_78 (fun H locs hP hD hS => ?_)
        obtain ⟨σ_10, eσ_10⟩ : ∃ z : St, z = su σ1 16 ((((σ 7 11) * (3 : Int32)) + (nI k)).toNatClampNeg) x5 := ⟨_, rfl⟩
        replace hP := P_cw_16 hP
        replace hD := D_cw_16 hD
        rw [← eσ_10] at hP hD
        replace hw : R = (sp_add_59 σ x1 x2 x3 x4 x5 σ_10 n (k + 1)) := by subst eσ_10; exact hw
        refine lv_iinc (v := (nI (k + 1))) (lv' := [(7, .int (nI (k + 1))), (0, .ref (a 7)), (1, .int x1), (2, .int x2), (3, .int x3), (4, .int x4), (5, .int x5), (6, .int (σ 7 11))]) hx hb dX2_add_79 hl (k := 7) rfl (nI_1 k) (by decide) rfl (fun ls hl => ?_)
        refine lv_goto (tgt := 59) hx hb dX2_add_82 (by decide) ?_
        exact ih (k + 1) σ_10 H locs ls (by omega) hP hD hS (lv_sub hl [1, 2, 3, 4, 5, 6, 7, 0] rfl) hw
  exact loop 3 0 σ_6 H locs ls (Nat.zero_add _) hP hD hS (lv_sub hl [2, 3, 4, 5, 6, 7, 1, 0] rfl) hw
set_option maxHeartbeats 4000000 in
set_option maxRecDepth 100000 in
theorem m_X2_countUse (l : Launch) (dC : Nat → ClassId) (dI : Nat → Nat → Nat) (cI cZ : ClassId) (a : Nat → Nat) (sz : Nat) (σ : St) (x1 : Int32) (x2 : Int32) (h1 : vp_in x1 40) : Met l yX2_countUse wsX2_countUse ({ frames := 0, cells := 0, slots := 0, locals := 0 }) (pMu dC dI cI cZ a sz σ [.ref (a 7), .int x1, .int x2]) (va_Qv (fun σ9 => σ9 = sp_countUse σ x1 x2) (bMu dC dI cI cZ a (va_A (cw cI cZ a σ) sz)) (va_A (cw cI cZ a σ) sz)) 0 0 (va_A (cw cI cZ a σ) sz) := by
  refine Met.ofW (cc := cX2_countUse) (maxL := 5) (ret := none) (by decide) rfl ?_
  intro p e s m args below meth c s₁ B hml hv
  obtain ⟨rfl, hsz, hP, hK, hD0⟩ := hv
  have hx := B.exec
  have hb := B.bytes
  have hr := B.returns
  have hts := atoms_spec (ws := wsX2_countUse) B.pre
  have hown : s.vm.findClass RX2 = some m.cls := findClass_of_methodNamed B.named
  have hlocks := B.notSynchronized
  subst hsz
  have hD := hD0.self (sz := s.heap.size)
  generalize hAe : va_A (cw cI cZ a σ) s.heap.size = A at hD ⊢
  have hA : ∀ q : Nat, s.heap.size ≤ q → A q := fun q h => by rw [← hAe]; exact Or.inr h
  clear hAe hD0
  obtain ⟨H, hHe⟩ : ∃ z, z = s.heap := ⟨_, rfl⟩
  obtain ⟨locs, hLe⟩ : ∃ z : List Loc, z = [] := ⟨_, rfl⟩
  have hS : va_S A s.heap H locs := by rw [hHe, hLe]; exact va_S.rf
  have hP : va_P (dC, dI) vwCl (cw cI cZ a σ) H := by rw [hHe]; exact hP
  refine W_ofH hHe hLe ?_
  clear hHe hLe
  have hl := lv_entry ([.ref (a 7), .int x1, .int x2]) (n := 5) (Nat.le_of_ble_eq_true rfl)
  rw [lg_entry_eq]
  generalize (lg_sl ([.ref (a 7), .int x1, .int x2]) ++ List.replicate (5 - (lg_sl ([.ref (a 7), .int x1, .int x2])).length) Slot.unset).toArray = ls at hl ⊢
  have hl : lv_has ls 5 [(0, .ref (a 7)), (1, .int x1), (2, .int x2)] := hl
  obtain ⟨R, hR⟩ : ∃ z, z = sp_countUse σ x1 x2 := ⟨_, rfl⟩
  have hw := hR
  unfold sp_countUse at hw
  refine lv_iconst (v := 0) hx hb dX2_countUse_0 (by decide) ?_
  refine lv_istore_n (lv' := [(3, .int (0 : Int32)), (0, .ref (a 7)), (1, .int x1), (2, .int x2)]) hx hb dX2_countUse_1 rfl hl (by decide) rfl (fun ls hl => ?_)
  have loop : ∀ (n k : Nat) (σ1 : St) (H : Heap) (locs : List Loc) (ls : Array Slot), k + n = 3 → va_P (dC, dI) vwCl (cw cI cZ a σ1) H → va_D A (cw cI cZ a σ1) → va_S A s.heap H locs → lv_has ls 5 [(0, .ref (a 7)), (1, .int x1), (2, .int x2), (3, .int (nI k))] → R = sp_countUse_2 σ x1 x2 σ1 n k → W p l e (headSpec wsX2_countUse ({ frames := 0, cells := 0, slots := 0, locals := 0 })).room s m [.ref (a 7), .int x1, .int x2].toArray below meth c H locs 0 0 (MQ below (va_Qv (fun σ9 => σ9 = sp_countUse σ x1 x2) (bMu dC dI cI cZ a A) A) [.ref (a 7), .int x1, .int x2].toArray s 0 0 A) (F0 m 2 ls []) := by
    intro n
    induction n with
    | zero =>
      intro k σ1 H locs ls hkn hP hD hS hl hw
      rw [sp_countUse_2_0] at hw
      refine lv_iload_n hx hb dX2_countUse_2 rfl (lv_at hl 3 rfl) ?_
      refine lv_iconst (v := 3) hx hb dX2_countUse_3 (by decide) ?_
      refine lv_icmp_ge (tgt := 42) hx hb dX2_countUse_4 (by decide) (fun c_4_1 => ?_) (fun c_4_1 => ?_)
      · skip
        exact W.vret hx hb hr (fun t ht hW => ⟨⟨σ1, rfl, hw.symm.trans hR, by rw [ht]; exact hP, va_K.moved hW.alike hK, hD⟩, hS.F ht⟩) hS.2.2 dX2_countUse_42
      · skip
        exact absurd (lpE ht_3 hkn (by omega)) c_4_1
    | succ n ih =>
      intro k σ1 H locs ls hkn hP hD hS hl hw
      rw [sp_countUse_2_s] at hw
      have hkf : vp_in (nI k) 3 := vp_in_nI (by omega) (by decide)
      refine lv_iload_n hx hb dX2_countUse_2 rfl (lv_at hl 3 rfl) ?_
      refine lv_iconst (v := 3) hx hb dX2_countUse_3 (by decide) ?_
      refine lv_icmp_ge (tgt := 42) hx hb dX2_countUse_4 (by decide) (fun c_4_2 => ?_) (fun c_4_2 => ?_)
      · skip
        exact absurd c_4_2 (lpB ht_3 hkn (by omega))
      · skip
        refine lv_iload_n hx hb dX2_countUse_7 rfl (lv_at hl 1 rfl) ?_
        refine lv_iconst (v := 3) hx hb dX2_countUse_8 (by decide) ?_
        refine lv_imul hx hb dX2_countUse_9 ?_
        refine lv_iload_n hx hb dX2_countUse_10 rfl (lv_at hl 3 rfl) ?_
        refine lv_iadd hx hb dX2_countUse_11 ?_
        refine lv_istore (lv' := [(4, .int ((x1 * (3 : Int32)) + (nI k))), (0, .ref (a 7)), (1, .int x1), (2, .int x2), (3, .int (nI k))]) hx hb dX2_countUse_12 hl (by decide) rfl (fun ls hl => ?_)
        refine lv_aload_n hx hb dX2_countUse_14 rfl (lv_at hl 1 rfl) ?_
        refine va_get (D := (dC, dI)) (ci := 2) (v := .ref (a 16)) (C := RX2) (T := TX2) (N := 12) hx hb hts (iwX2 _) hown hK hP 7 rfl rfl 8 (by decide) (hts _ (kc k_91)) (fun _ h9 => h9) rfl dX2_countUse_15 ?_
        refine lv_iload hx hb dX2_countUse_18 (lv_at hl 0 rfl) ?_
        refine va_iald (D := (dC, dI)) (f := σ1 16) hx hb hK hP 16 0 rfl rfl (i := (x1 * (3 : Int32)) + (nI k)) (in_m3 (n := 40) h1 hkf (by decide) (by decide)) dX2_countUse_20 ?_
        refine lv_iload_n hx hb dX2_countUse_21 rfl (lv_at hl 3 rfl) ?_
        refine lv_icmp_eq (tgt := 36) hx hb dX2_countUse_22 (by decide) (fun c_22_3 => ?_) (fun c_22_3 => ?_)
        · skip
          rw [if_pos c_22_3] at hw
          refine lv_iinc (v := (nI (k + 1))) (lv' := [(3, .int (nI (k + 1))), (4, .int ((x1 * (3 : Int32)) + (nI k))), (0, .ref (a 7)), (1, .int x1), (2, .int x2)]) hx hb dX2_countUse_36 hl (k := 4) rfl (nI_1 k) (by decide) rfl (fun ls hl => ?_)
          refine lv_goto (tgt := 2) hx hb dX2_countUse_39 (by decide) ?_
          exact ih (k + 1) σ1 H locs ls (by omega) hP hD hS (lv_sub hl [2, 3, 4, 0] rfl) hw
        · skip
          rw [if_neg c_22_3] at hw
          refine lv_aload_n hx hb dX2_countUse_25 rfl (lv_at hl 1 rfl) ?_
          refine va_get (D := (dC, dI)) (ci := 2) (v := .ref (a 17)) (C := RX2) (T := TX2) (N := 12) hx hb hts (iwX2 _) hown hK hP 7 rfl rfl 9 (by decide) (hts _ (kc k_93)) (fun _ h9 => h9) rfl dX2_countUse_26 ?_
          refine lv_iload hx hb dX2_countUse_29 (lv_at hl 0 rfl) ?_
          refine lv_dup2_11 hx hb dX2_countUse_31 rfl rfl ?_
          refine va_iald (D := (dC, dI)) (f := σ1 17) hx hb hK hP 17 0 rfl rfl (i := (x1 * (3 : Int32)) + (nI k)) (in_m3 (n := 40) h1 hkf (by decide) (by decide)) dX2_countUse_32 ?_
          refine lv_iconst (v := 1) hx hb dX2_countUse_33 (by decide) ?_
          refine lv_iadd hx hb dX2_countUse_34 ?_
          refine va_iast (D := (dC, dI)) (f := σ1 17) hx hb hK hP hD hS 17 0 rfl rfl (i := (x1 * (3 : Int32)) + (nI k)) (x := (σ1 17 ((x1 * (3 : Int32)) + (nI k)).toNatClampNeg) + (1 : Int32)) (in_m3 (n := 40) h1 hkf (by decide) (by decide)) dX2_countUse_35 (fun H locs hP hD hS => ?_)
          obtain ⟨σ_4, eσ_4⟩ : ∃ z : St, z = su σ1 17 (((x1 * (3 : Int32)) + (nI k)).toNatClampNeg) ((σ1 17 ((x1 * (3 : Int32)) + (nI k)).toNatClampNeg) + (1 : Int32)) := ⟨_, rfl⟩
          replace hP := P_cw_17 hP
          replace hD := D_cw_17 hD
          rw [← eσ_4] at hP hD
          replace hw : R = (sp_countUse_2 σ x1 x2 σ_4 n (k + 1)) := by subst eσ_4; exact hw
          refine lv_iinc (v := (nI (k + 1))) (lv' := [(3, .int (nI (k + 1))), (4, .int ((x1 * (3 : Int32)) + (nI k))), (0, .ref (a 7)), (1, .int x1), (2, .int x2)]) hx hb dX2_countUse_36 hl (k := 4) rfl (nI_1 k) (by decide) rfl (fun ls hl => ?_)
          refine lv_goto (tgt := 2) hx hb dX2_countUse_39 (by decide) ?_
          exact ih (k + 1) σ_4 H locs ls (by omega) hP hD hS (lv_sub hl [2, 3, 4, 0] rfl) hw
  exact loop 3 0 σ H locs ls (Nat.zero_add _) hP hD hS (lv_sub hl [1, 2, 3, 0] rfl) hw
set_option maxHeartbeats 4000000 in
set_option maxRecDepth 100000 in
theorem m_X2_enterGrade (l : Launch) (dC : Nat → ClassId) (dI : Nat → Nat → Nat) (cI cZ : ClassId) (a : Nat → Nat) (sz : Nat) (σ : St) (x1 : Int32) (x2 : Int32) (x3 : Int32) (x4 : Int32) (h1 : vp_in x1 40) (h2 : vp_in x2 3) : Met l yX2_enterGrade wsX2_enterGrade ({ frames := 1, cells := 0, slots := 0, locals := 21 }) (pMu dC dI cI cZ a sz σ [.ref (a 7), .int x1, .int x2, .int x3, .int x4]) (va_Qi (fun r σ9 => (r, σ9) = sp_enterGrade σ x1 x2 x3 x4) (bMu dC dI cI cZ a (va_A (cw cI cZ a σ) sz)) (va_A (cw cI cZ a σ) sz)) 0 0 (va_A (cw cI cZ a σ) sz) := by
  refine Met.ofW (cc := cX2_enterGrade) (maxL := 6) (ret := (some .int)) (by decide) rfl ?_
  intro p e s m args below meth c s₁ B hml hv
  obtain ⟨rfl, hsz, hP, hK, hD0⟩ := hv
  have hx := B.exec
  have hb := B.bytes
  have hr := B.returns
  have hts := atoms_spec (ws := wsX2_enterGrade) B.pre
  have hown : s.vm.findClass RX2 = some m.cls := findClass_of_methodNamed B.named
  have hlocks := B.notSynchronized
  subst hsz
  have hD := hD0.self (sz := s.heap.size)
  generalize hAe : va_A (cw cI cZ a σ) s.heap.size = A at hD ⊢
  have hA : ∀ q : Nat, s.heap.size ≤ q → A q := fun q h => by rw [← hAe]; exact Or.inr h
  clear hAe hD0
  obtain ⟨H, hHe⟩ : ∃ z, z = s.heap := ⟨_, rfl⟩
  obtain ⟨locs, hLe⟩ : ∃ z : List Loc, z = [] := ⟨_, rfl⟩
  have hS : va_S A s.heap H locs := by rw [hHe, hLe]; exact va_S.rf
  have hP : va_P (dC, dI) vwCl (cw cI cZ a σ) H := by rw [hHe]; exact hP
  refine W_ofH hHe hLe ?_
  clear hHe hLe
  have hl := lv_entry ([.ref (a 7), .int x1, .int x2, .int x3, .int x4]) (n := 6) (Nat.le_of_ble_eq_true rfl)
  rw [lg_entry_eq]
  generalize (lg_sl ([.ref (a 7), .int x1, .int x2, .int x3, .int x4]) ++ List.replicate (6 - (lg_sl ([.ref (a 7), .int x1, .int x2, .int x3, .int x4])).length) Slot.unset).toArray = ls at hl ⊢
  have hl : lv_has ls 6 [(0, .ref (a 7)), (1, .int x1), (2, .int x2), (3, .int x3), (4, .int x4)] := hl
  obtain ⟨R, hR⟩ : ∃ z, z = sp_enterGrade σ x1 x2 x3 x4 := ⟨_, rfl⟩
  have hw := hR
  unfold sp_enterGrade at hw
  refine lv_iload_n hx hb dX2_enterGrade_0 rfl (lv_at hl 1 rfl) ?_
  refine lv_iconst (v := 3) hx hb dX2_enterGrade_1 (by decide) ?_
  refine lv_imul hx hb dX2_enterGrade_2 ?_
  refine lv_iload_n hx hb dX2_enterGrade_3 rfl (lv_at hl 2 rfl) ?_
  refine lv_iadd hx hb dX2_enterGrade_4 ?_
  refine lv_istore (lv' := [(5, .int ((x1 * (3 : Int32)) + x2)), (0, .ref (a 7)), (1, .int x1), (2, .int x2), (3, .int x3), (4, .int x4)]) hx hb dX2_enterGrade_5 hl (by decide) rfl (fun ls hl => ?_)
  refine lv_aload_n hx hb dX2_enterGrade_7 rfl (lv_at hl 1 rfl) ?_
  refine va_get (D := (dC, dI)) (ci := 2) (v := .ref (a 18)) (C := RX2) (T := TX2) (N := 12) hx hb hts (iwX2 _) hown hK hP 7 rfl rfl 10 (by decide) (hts _ (kc k_95)) (fun _ h9 => h9) rfl dX2_enterGrade_8 ?_
  refine lv_iload hx hb dX2_enterGrade_11 (lv_at hl 0 rfl) ?_
  refine lv_aload_n hx hb dX2_enterGrade_13 rfl (lv_at hl 1 rfl) ?_
  refine va_get (D := (dC, dI)) (ci := 2) (v := .ref (a 16)) (C := RX2) (T := TX2) (N := 12) hx hb hts (iwX2 _) hown hK hP 7 rfl rfl 8 (by decide) (hts _ (kc k_91)) (fun _ h9 => h9) rfl dX2_enterGrade_14 ?_
  refine lv_iload hx hb dX2_enterGrade_17 (lv_at hl 0 rfl) ?_
  refine va_iald (D := (dC, dI)) (f := σ 16) hx hb hK hP 16 0 rfl rfl (i := (x1 * (3 : Int32)) + x2) (in_m3 (n := 40) h1 h2 (by decide) (by decide)) dX2_enterGrade_19 ?_
  refine lv_iload hx hb dX2_enterGrade_20 (lv_at hl 5 rfl) ?_
  refine lv_icmp_ne (tgt := 39) hx hb dX2_enterGrade_22 (by decide) (fun c_22_1 => ?_) (fun c_22_1 => ?_)
  · skip
    rw [if_neg c_22_1] at hw
    refine lv_iload_n hx hb dX2_enterGrade_39 rfl (lv_at hl 4 rfl) ?_
    refine va_iast (D := (dC, dI)) (f := σ 18) hx hb hK hP hD hS 18 0 rfl rfl (i := (x1 * (3 : Int32)) + x2) (x := x3) (in_m3 (n := 40) h1 h2 (by decide) (by decide)) dX2_enterGrade_40 (fun H locs hP hD hS => ?_)
    obtain ⟨σ_2, eσ_2⟩ : ∃ z : St, z = su σ 18 (((x1 * (3 : Int32)) + x2).toNatClampNeg) x3 := ⟨_, rfl⟩
    replace hP := P_cw_18 hP
    replace hD := D_cw_18 hD
    rw [← eσ_2] at hP hD
    replace hw : R = (let σ_3 : St := su σ_2 16 (((x1 * (3 : Int32)) + x2).toNatClampNeg) x4; let σ_4 : St := su σ_3 17 (((x1 * (3 : Int32)) + x2).toNatClampNeg) (0 : Int32); if x3 = (2 : Int32) then (let σ_6 : St := su σ_4 13 x1.toNatClampNeg x4; (σ_6 18 ((x1 * (3 : Int32)) + x2).toNatClampNeg, σ_6)) else (σ_4 18 ((x1 * (3 : Int32)) + x2).toNatClampNeg, σ_4)) := by subst eσ_2; exact hw
    refine lv_aload_n hx hb dX2_enterGrade_41 rfl (lv_at hl 1 rfl) ?_
    refine va_get (D := (dC, dI)) (ci := 2) (v := .ref (a 16)) (C := RX2) (T := TX2) (N := 12) hx hb hts (iwX2 _) hown hK hP 7 rfl rfl 8 (by decide) (hts _ (kc k_91)) (fun _ h9 => h9) rfl dX2_enterGrade_42 ?_
    refine lv_iload hx hb dX2_enterGrade_45 (lv_at hl 0 rfl) ?_
    refine lv_iload hx hb dX2_enterGrade_47 (lv_at hl 5 rfl) ?_
    refine va_iast (D := (dC, dI)) (f := σ_2 16) hx hb hK hP hD hS 16 0 rfl rfl (i := (x1 * (3 : Int32)) + x2) (x := x4) (in_m3 (n := 40) h1 h2 (by decide) (by decide)) dX2_enterGrade_49 (fun H locs hP hD hS => ?_)
    obtain ⟨σ_3, eσ_3⟩ : ∃ z : St, z = su σ_2 16 (((x1 * (3 : Int32)) + x2).toNatClampNeg) x4 := ⟨_, rfl⟩
    replace hP := P_cw_16 hP
    replace hD := D_cw_16 hD
    rw [← eσ_3] at hP hD
    replace hw : R = (let σ_4 : St := su σ_3 17 (((x1 * (3 : Int32)) + x2).toNatClampNeg) (0 : Int32); if x3 = (2 : Int32) then (let σ_6 : St := su σ_4 13 x1.toNatClampNeg x4; (σ_6 18 ((x1 * (3 : Int32)) + x2).toNatClampNeg, σ_6)) else (σ_4 18 ((x1 * (3 : Int32)) + x2).toNatClampNeg, σ_4)) := by subst eσ_3; exact hw
    refine lv_aload_n hx hb dX2_enterGrade_50 rfl (lv_at hl 1 rfl) ?_
    refine va_get (D := (dC, dI)) (ci := 2) (v := .ref (a 17)) (C := RX2) (T := TX2) (N := 12) hx hb hts (iwX2 _) hown hK hP 7 rfl rfl 9 (by decide) (hts _ (kc k_93)) (fun _ h9 => h9) rfl dX2_enterGrade_51 ?_
    refine lv_iload hx hb dX2_enterGrade_54 (lv_at hl 0 rfl) ?_
    refine lv_iconst (v := 0) hx hb dX2_enterGrade_56 (by decide) ?_
    refine va_iast (D := (dC, dI)) (f := σ_3 17) hx hb hK hP hD hS 17 0 rfl rfl (i := (x1 * (3 : Int32)) + x2) (x := (0 : Int32)) (in_m3 (n := 40) h1 h2 (by decide) (by decide)) dX2_enterGrade_57 (fun H locs hP hD hS => ?_)
    obtain ⟨σ_4, eσ_4⟩ : ∃ z : St, z = su σ_3 17 (((x1 * (3 : Int32)) + x2).toNatClampNeg) (0 : Int32) := ⟨_, rfl⟩
    replace hP := P_cw_17 hP
    replace hD := D_cw_17 hD
    rw [← eσ_4] at hP hD
    replace hw : R = (if x3 = (2 : Int32) then (let σ_6 : St := su σ_4 13 x1.toNatClampNeg x4; (σ_6 18 ((x1 * (3 : Int32)) + x2).toNatClampNeg, σ_6)) else (σ_4 18 ((x1 * (3 : Int32)) + x2).toNatClampNeg, σ_4)) := by subst eσ_4; exact hw
    refine lv_iload_n hx hb dX2_enterGrade_58 rfl (lv_at hl 4 rfl) ?_
    refine lv_iconst (v := 2) hx hb dX2_enterGrade_59 (by decide) ?_
    refine lv_icmp_ne (tgt := 71) hx hb dX2_enterGrade_60 (by decide) (fun c_60_5 => ?_) (fun c_60_5 => ?_)
    · skip
      rw [if_neg c_60_5] at hw
      refine lv_aload_n hx hb dX2_enterGrade_71 rfl (lv_at hl 1 rfl) ?_
      refine va_get (D := (dC, dI)) (ci := 2) (v := .ref (a 18)) (C := RX2) (T := TX2) (N := 12) hx hb hts (iwX2 _) hown hK hP 7 rfl rfl 10 (by decide) (hts _ (kc k_95)) (fun _ h9 => h9) rfl dX2_enterGrade_72 ?_
      refine lv_iload hx hb dX2_enterGrade_75 (lv_at hl 0 rfl) ?_
      refine va_iald (D := (dC, dI)) (f := σ_4 18) hx hb hK hP 18 0 rfl rfl (i := (x1 * (3 : Int32)) + x2) (in_m3 (n := 40) h1 h2 (by decide) (by decide)) dX2_enterGrade_77 ?_
      exact W.iret (v := σ_4 18 ((x1 * (3 : Int32)) + x2).toNatClampNeg) hx hb hr (fun t ht hW => ⟨⟨σ_4 18 ((x1 * (3 : Int32)) + x2).toNatClampNeg, σ_4, rfl, hw.symm.trans hR, by rw [ht]; exact hP, va_K.moved hW.alike hK, hD⟩, hS.F ht⟩) hS.2.2 dX2_enterGrade_78
    · skip
      rw [if_pos c_60_5] at hw
      refine lv_aload_n hx hb dX2_enterGrade_63 rfl (lv_at hl 1 rfl) ?_
      refine va_get (D := (dC, dI)) (ci := 2) (v := .ref (a 13)) (C := RX2) (T := TX2) (N := 12) hx hb hts (iwX2 _) hown hK hP 7 rfl rfl 5 (by decide) (hts _ (kc k_85)) (fun _ h9 => h9) rfl dX2_enterGrade_64 ?_
      refine lv_iload_n hx hb dX2_enterGrade_67 rfl (lv_at hl 2 rfl) ?_
      refine lv_iload hx hb dX2_enterGrade_68 (lv_at hl 5 rfl) ?_
      refine va_iast (D := (dC, dI)) (f := σ_4 13) hx hb hK hP hD hS 13 0 rfl rfl (i := x1) (x := x4) h1 dX2_enterGrade_70 (fun H locs hP hD hS => ?_)
      obtain ⟨σ_6, eσ_6⟩ : ∃ z : St, z = su σ_4 13 x1.toNatClampNeg x4 := ⟨_, rfl⟩
      replace hP := P_cw_13 hP
      replace hD := D_cw_13 hD
      rw [← eσ_6] at hP hD
      replace hw : R = ((σ_6 18 ((x1 * (3 : Int32)) + x2).toNatClampNeg, σ_6)) := by subst eσ_6; exact hw
      refine lv_aload_n hx hb dX2_enterGrade_71 rfl (lv_at hl 1 rfl) ?_
      refine va_get (D := (dC, dI)) (ci := 2) (v := .ref (a 18)) (C := RX2) (T := TX2) (N := 12) hx hb hts (iwX2 _) hown hK hP 7 rfl rfl 10 (by decide) (hts _ (kc k_95)) (fun _ h9 => h9) rfl dX2_enterGrade_72 ?_
      refine lv_iload hx hb dX2_enterGrade_75 (lv_at hl 0 rfl) ?_
      refine va_iald (D := (dC, dI)) (f := σ_6 18) hx hb hK hP 18 0 rfl rfl (i := (x1 * (3 : Int32)) + x2) (in_m3 (n := 40) h1 h2 (by decide) (by decide)) dX2_enterGrade_77 ?_
      exact W.iret (v := σ_6 18 ((x1 * (3 : Int32)) + x2).toNatClampNeg) hx hb hr (fun t ht hW => ⟨⟨σ_6 18 ((x1 * (3 : Int32)) + x2).toNatClampNeg, σ_6, rfl, hw.symm.trans hR, by rw [ht]; exact hP, va_K.moved hW.alike hK, hD⟩, hS.F ht⟩) hS.2.2 dX2_enterGrade_78
  · skip
    rw [if_pos c_22_1] at hw
    refine lv_aload_n hx hb dX2_enterGrade_25 rfl (lv_at hl 1 rfl) ?_
    refine va_get (D := (dC, dI)) (ci := 2) (v := .ref (a 18)) (C := RX2) (T := TX2) (N := 12) hx hb hts (iwX2 _) hown hK hP 7 rfl rfl 10 (by decide) (hts _ (kc k_95)) (fun _ h9 => h9) rfl dX2_enterGrade_26 ?_
    refine lv_iload hx hb dX2_enterGrade_29 (lv_at hl 0 rfl) ?_
    refine va_iald (D := (dC, dI)) (f := σ 18) hx hb hK hP 18 0 rfl rfl (i := (x1 * (3 : Int32)) + x2) (in_m3 (n := 40) h1 h2 (by decide) (by decide)) dX2_enterGrade_31 ?_
    refine lv_iload_n hx hb dX2_enterGrade_32 rfl (lv_at hl 4 rfl) ?_
    refine va_mmax hx hb (hml.trans hl.1.symm) hown (hts _ (kc k_396)) (hts _ (kc k_397)) (hts _ (kc k_32)) (hts _ (kc k_398)) (Nat.le_of_ble_eq_true rfl) (Nat.le_of_ble_eq_true rfl) (Nat.le_of_ble_eq_true rfl) (Nat.le_of_ble_eq_true rfl) dX2_enterGrade_33 ?_
    refine lv_goto (tgt := 40) hx hb dX2_enterGrade_36 (by decide) ?_
    refine va_iast (D := (dC, dI)) (f := σ 18) hx hb hK hP hD hS 18 0 rfl rfl (i := (x1 * (3 : Int32)) + x2) (x := (if (σ 18 ((x1 * (3 : Int32)) + x2).toNatClampNeg) < x3 then x3 else (σ 18 ((x1 * (3 : Int32)) + x2).toNatClampNeg))) (in_m3 (n := 40) h1 h2 (by decide) (by decide)) dX2_enterGrade_40 (fun H locs hP hD hS => ?_)
    obtain ⟨σ_7, eσ_7⟩ : ∃ z : St, z = su σ 18 (((x1 * (3 : Int32)) + x2).toNatClampNeg) (if (σ 18 ((x1 * (3 : Int32)) + x2).toNatClampNeg) < x3 then x3 else (σ 18 ((x1 * (3 : Int32)) + x2).toNatClampNeg)) := ⟨_, rfl⟩
    replace hP := P_cw_18 hP
    replace hD := D_cw_18 hD
    rw [← eσ_7] at hP hD
    replace hw : R = (let σ_8 : St := su σ_7 16 (((x1 * (3 : Int32)) + x2).toNatClampNeg) x4; let σ_9 : St := su σ_8 17 (((x1 * (3 : Int32)) + x2).toNatClampNeg) (0 : Int32); if x3 = (2 : Int32) then (let σ_11 : St := su σ_9 13 x1.toNatClampNeg x4; (σ_11 18 ((x1 * (3 : Int32)) + x2).toNatClampNeg, σ_11)) else (σ_9 18 ((x1 * (3 : Int32)) + x2).toNatClampNeg, σ_9)) := by subst eσ_7; exact hw
    refine lv_aload_n hx hb dX2_enterGrade_41 rfl (lv_at hl 1 rfl) ?_
    refine va_get (D := (dC, dI)) (ci := 2) (v := .ref (a 16)) (C := RX2) (T := TX2) (N := 12) hx hb hts (iwX2 _) hown hK hP 7 rfl rfl 8 (by decide) (hts _ (kc k_91)) (fun _ h9 => h9) rfl dX2_enterGrade_42 ?_
    refine lv_iload hx hb dX2_enterGrade_45 (lv_at hl 0 rfl) ?_
    refine lv_iload hx hb dX2_enterGrade_47 (lv_at hl 5 rfl) ?_
    refine va_iast (D := (dC, dI)) (f := σ_7 16) hx hb hK hP hD hS 16 0 rfl rfl (i := (x1 * (3 : Int32)) + x2) (x := x4) (in_m3 (n := 40) h1 h2 (by decide) (by decide)) dX2_enterGrade_49 (fun H locs hP hD hS => ?_)
    obtain ⟨σ_8, eσ_8⟩ : ∃ z : St, z = su σ_7 16 (((x1 * (3 : Int32)) + x2).toNatClampNeg) x4 := ⟨_, rfl⟩
    replace hP := P_cw_16 hP
    replace hD := D_cw_16 hD
    rw [← eσ_8] at hP hD
    replace hw : R = (let σ_9 : St := su σ_8 17 (((x1 * (3 : Int32)) + x2).toNatClampNeg) (0 : Int32); if x3 = (2 : Int32) then (let σ_11 : St := su σ_9 13 x1.toNatClampNeg x4; (σ_11 18 ((x1 * (3 : Int32)) + x2).toNatClampNeg, σ_11)) else (σ_9 18 ((x1 * (3 : Int32)) + x2).toNatClampNeg, σ_9)) := by subst eσ_8; exact hw
    refine lv_aload_n hx hb dX2_enterGrade_50 rfl (lv_at hl 1 rfl) ?_
    refine va_get (D := (dC, dI)) (ci := 2) (v := .ref (a 17)) (C := RX2) (T := TX2) (N := 12) hx hb hts (iwX2 _) hown hK hP 7 rfl rfl 9 (by decide) (hts _ (kc k_93)) (fun _ h9 => h9) rfl dX2_enterGrade_51 ?_
    refine lv_iload hx hb dX2_enterGrade_54 (lv_at hl 0 rfl) ?_
    refine lv_iconst (v := 0) hx hb dX2_enterGrade_56 (by decide) ?_
    refine va_iast (D := (dC, dI)) (f := σ_8 17) hx hb hK hP hD hS 17 0 rfl rfl (i := (x1 * (3 : Int32)) + x2) (x := (0 : Int32)) (in_m3 (n := 40) h1 h2 (by decide) (by decide)) dX2_enterGrade_57 (fun H locs hP hD hS => ?_)
    obtain ⟨σ_9, eσ_9⟩ : ∃ z : St, z = su σ_8 17 (((x1 * (3 : Int32)) + x2).toNatClampNeg) (0 : Int32) := ⟨_, rfl⟩
    replace hP := P_cw_17 hP
    replace hD := D_cw_17 hD
    rw [← eσ_9] at hP hD
    replace hw : R = (if x3 = (2 : Int32) then (let σ_11 : St := su σ_9 13 x1.toNatClampNeg x4; (σ_11 18 ((x1 * (3 : Int32)) + x2).toNatClampNeg, σ_11)) else (σ_9 18 ((x1 * (3 : Int32)) + x2).toNatClampNeg, σ_9)) := by subst eσ_9; exact hw
    refine lv_iload_n hx hb dX2_enterGrade_58 rfl (lv_at hl 4 rfl) ?_
    refine lv_iconst (v := 2) hx hb dX2_enterGrade_59 (by decide) ?_
    refine lv_icmp_ne (tgt := 71) hx hb dX2_enterGrade_60 (by decide) (fun c_60_10 => ?_) (fun c_60_10 => ?_)
    · skip
      rw [if_neg c_60_10] at hw
      refine lv_aload_n hx hb dX2_enterGrade_71 rfl (lv_at hl 1 rfl) ?_
      refine va_get (D := (dC, dI)) (ci := 2) (v := .ref (a 18)) (C := RX2) (T := TX2) (N := 12) hx hb hts (iwX2 _) hown hK hP 7 rfl rfl 10 (by decide) (hts _ (kc k_95)) (fun _ h9 => h9) rfl dX2_enterGrade_72 ?_
      refine lv_iload hx hb dX2_enterGrade_75 (lv_at hl 0 rfl) ?_
      refine va_iald (D := (dC, dI)) (f := σ_9 18) hx hb hK hP 18 0 rfl rfl (i := (x1 * (3 : Int32)) + x2) (in_m3 (n := 40) h1 h2 (by decide) (by decide)) dX2_enterGrade_77 ?_
      exact W.iret (v := σ_9 18 ((x1 * (3 : Int32)) + x2).toNatClampNeg) hx hb hr (fun t ht hW => ⟨⟨σ_9 18 ((x1 * (3 : Int32)) + x2).toNatClampNeg, σ_9, rfl, hw.symm.trans hR, by rw [ht]; exact hP, va_K.moved hW.alike hK, hD⟩, hS.F ht⟩) hS.2.2 dX2_enterGrade_78
    · skip
      rw [if_pos c_60_10] at hw
      refine lv_aload_n hx hb dX2_enterGrade_63 rfl (lv_at hl 1 rfl) ?_
      refine va_get (D := (dC, dI)) (ci := 2) (v := .ref (a 13)) (C := RX2) (T := TX2) (N := 12) hx hb hts (iwX2 _) hown hK hP 7 rfl rfl 5 (by decide) (hts _ (kc k_85)) (fun _ h9 => h9) rfl dX2_enterGrade_64 ?_
      refine lv_iload_n hx hb dX2_enterGrade_67 rfl (lv_at hl 2 rfl) ?_
      refine lv_iload hx hb dX2_enterGrade_68 (lv_at hl 5 rfl) ?_
      refine va_iast (D := (dC, dI)) (f := σ_9 13) hx hb hK hP hD hS 13 0 rfl rfl (i := x1) (x := x4) h1 dX2_enterGrade_70 (fun H locs hP hD hS => ?_)
      obtain ⟨σ_11, eσ_11⟩ : ∃ z : St, z = su σ_9 13 x1.toNatClampNeg x4 := ⟨_, rfl⟩
      replace hP := P_cw_13 hP
      replace hD := D_cw_13 hD
      rw [← eσ_11] at hP hD
      replace hw : R = ((σ_11 18 ((x1 * (3 : Int32)) + x2).toNatClampNeg, σ_11)) := by subst eσ_11; exact hw
      refine lv_aload_n hx hb dX2_enterGrade_71 rfl (lv_at hl 1 rfl) ?_
      refine va_get (D := (dC, dI)) (ci := 2) (v := .ref (a 18)) (C := RX2) (T := TX2) (N := 12) hx hb hts (iwX2 _) hown hK hP 7 rfl rfl 10 (by decide) (hts _ (kc k_95)) (fun _ h9 => h9) rfl dX2_enterGrade_72 ?_
      refine lv_iload hx hb dX2_enterGrade_75 (lv_at hl 0 rfl) ?_
      refine va_iald (D := (dC, dI)) (f := σ_11 18) hx hb hK hP 18 0 rfl rfl (i := (x1 * (3 : Int32)) + x2) (in_m3 (n := 40) h1 h2 (by decide) (by decide)) dX2_enterGrade_77 ?_
      exact W.iret (v := σ_11 18 ((x1 * (3 : Int32)) + x2).toNatClampNeg) hx hb hr (fun t ht hW => ⟨⟨σ_11 18 ((x1 * (3 : Int32)) + x2).toNatClampNeg, σ_11, rfl, hw.symm.trans hR, by rw [ht]; exact hP, va_K.moved hW.alike hK, hD⟩, hS.F ht⟩) hS.2.2 dX2_enterGrade_78
