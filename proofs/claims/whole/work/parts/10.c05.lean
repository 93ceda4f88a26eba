set_option maxHeartbeats 4000000 in
set_option maxRecDepth 100000 in
theorem m_X3_use (l : Launch) (hl9 : l.stackTraces = false) (dC : Nat → ClassId) (dI : Nat → Nat → Nat) (cI cZ : ClassId) (a : Nat → Nat) (zk : Nat → Nat) (sz : Nat) (σ : St) (x1 : Int32) (hiv : IV σ) : vx_Met l yX3_use wsX3_use ({ frames := 7, cells := 2, slots := 12, locals := 111 }) (pPu dC dI cI cZ a zk sz σ [.ref (a 0), .int x1]) (va_Qv (fun σ9 => sp_use σ x1 = .ok (0, σ9)) (bMu dC dI cI cZ a (va_A (cw cI cZ a σ) sz)) (va_A (cw cI cZ a σ) sz)) (vx_X (fun E : String => sp_use σ x1 = .error E) (bXu dC dI cI cZ a (va_A (cw cI cZ a σ) sz) σ) (va_A (cw cI cZ a σ) sz)) 2 12 (va_A (cw cI cZ a σ) sz) := by
  refine vx_ofW (cc := cX3_use) (maxL := 2) (ret := none) (by decide) rfl ?_
  intro p e s m args below meth c s₁ B hml hEx hv
  obtain ⟨rfl, hsz, hP, hK, hD0, hz⟩ := hv
  have hx := B.exec
  have hb := B.bytes
  have hr := B.returns
  have hts := atoms_spec (ws := wsX3_use) B.pre
  have hown : s.vm.findClass RX3 = some m.cls := findClass_of_methodNamed B.named
  have hlocks := B.notSynchronized
  subst hsz
  have hD := hD0.self (sz := s.heap.size)
  generalize hAe : va_A (cw cI cZ a σ) s.heap.size = A at hD hz ⊢
  have hA : ∀ q : Nat, s.heap.size ≤ q → A q := fun q h => by rw [← hAe]; exact Or.inr h
  clear hAe hD0
  obtain ⟨H, hHe⟩ : ∃ z, z = s.heap := ⟨_, rfl⟩
  obtain ⟨locs, hLe⟩ : ∃ z : List Loc, z = [] := ⟨_, rfl⟩
  have hS : va_S A s.heap H locs := by rw [hHe, hLe]; exact va_S.rf
  have hP : va_P (dC, dI) vwCl (cw cI cZ a σ) H := by rw [hHe]; exact hP
  refine W_ofH hHe hLe ?_
  clear hHe hLe
  have hl := lv_entry ([.ref (a 0), .int x1]) (n := 2) (Nat.le_of_ble_eq_true rfl)
  rw [lg_entry_eq]
  generalize (lg_sl ([.ref (a 0), .int x1]) ++ List.replicate (2 - (lg_sl ([.ref (a 0), .int x1])).length) Slot.unset).toArray = ls at hl ⊢
  have hl : lv_has ls 2 [(0, .ref (a 0)), (1, .int x1)] := hl
  obtain ⟨R, hR⟩ : ∃ z, z = sp_use σ x1 := ⟨_, rfl⟩
  have hw := hR
  unfold sp_use at hw
  refine lv_iload_n hx hb dX3_use_0 rfl (lv_at hl 1 rfl) ?_
  refine lv_aload_n hx hb dX3_use_1 rfl (lv_at hl 0 rfl) ?_
  refine va_get (D := (dC, dI)) (ci := 3) (v := .ref (a 7)) (C := RX3) (T := TX3) (N := 6) hx hb hts (iwX3 _) hown hK hP 0 rfl rfl 1 (by decide) (hts _ (kc k_155)) (fun _ h9 => h9) rfl dX3_use_2 ?_
  refine va_get (D := (dC, dI)) (ci := 2) (v := .int (σ 7 11)) (C := RX2) (T := TX2) (N := 12) hx hb hts (iwX2 _) hown hK hP 7 rfl rfl 11 (by decide) (hts _ (kc k_97)) (fun _ h9 => h9) rfl dX3_use_5 ?_
  refine nx_call (vx_runS (As := [.int x1, .int (σ 7 11)]) (rest := []) ⟨hx, hb, hml, hown, hts⟩ (m_X3_needKnown l hl9 zk H.size x1 (σ 7 11)) (cwS 2 hts (gS k_263 k_264 k_20 k_265) rfl rfl rfl (by decide +kernel) ⟨Nat.le_of_ble_eq_true rfl, Nat.le_of_ble_eq_true rfl⟩) (pn_need hz hS hA) rfl rfl hl.1 rfl (lv_room (Nat.le_of_ble_eq_true rfl)) dX3_use_8 ⟨Nat.le_of_ble_eq_true rfl, Nat.le_of_ble_eq_true rfl⟩) hP hD hS hA (fun c_8_1 => ?_) (fun c_8_1 H1 q9 ce hP1 hS1 hc1 hc2 hc3 => vx_out (fun x hx9 => (hEx x hx9).elim) hlocks hc1 hc2 hc3 (fun t ht hvm => ⟨_, hR.symm.trans (hw.trans (if_neg c_8_1)), ⟨rfl, by rw [ht]; exact hP1, va_K.moved hvm hK, hD⟩, hS1.F ht⟩) hS1.2.2 (Nat.le_of_ble_eq_true rfl) (Nat.le_of_ble_eq_true rfl))
  rw [if_pos c_8_1] at hw
  have hn_2 : vp_in x1 40 := okK_cnt hiv c_8_1
  refine lv_aload_n hx hb dX3_use_11 rfl (lv_at hl 0 rfl) ?_
  refine lv_iload_n hx hb dX3_use_12 rfl (lv_at hl 1 rfl) ?_
  refine vp_callSi (W.runV (As := [.int x1]) (rest := []) ⟨hx, hb, hml, hown, hts⟩ (m_X3_reasonBarred l dC dI cI cZ a σ x1 hiv hn_2) (cwV 1 hts (gV k_368 k_370 k_1 k_20 k_371) rfl rfl rfl (by decide +kernel) ⟨Nat.le_of_ble_eq_true rfl, Nat.le_of_ble_eq_true rfl⟩) (pv_ro (q := (RX3, TX3, 6)) (q0 := 0) (ci := 3) hK hP rfl rfl) rfl rfl hl.1 rfl (lv_room (Nat.le_of_ble_eq_true rfl)) dX3_use_13 ⟨Nat.le_of_ble_eq_true rfl, Nat.le_of_ble_eq_true rfl⟩) (fun r hrr => ?_)
  subst hrr
  refine lv_if_ne (tgt := 23) hx hb dX3_use_16 (by decide) (fun c_16_3 => ?_) (fun c_16_3 => ?_)
  · skip
    rw [if_neg c_16_3] at hw
    refine lv_iconst (v := 0) hx hb dX3_use_23 (by decide) ?_
    exact nx_call (vx_runS (As := [.int (0 : Int32)]) (rest := []) ⟨hx, hb, hml, hown, hts⟩ (m_X3_needState l hl9 zk H.size (0 : Int32)) (cwS 1 hts (gS k_311 k_312 k_20 k_313) rfl rfl rfl (by decide +kernel) ⟨Nat.le_of_ble_eq_true rfl, Nat.le_of_ble_eq_true rfl⟩) (pn_need hz hS hA) rfl rfl hl.1 rfl (lv_room (Nat.le_of_ble_eq_true rfl)) dX3_use_24 ⟨Nat.le_of_ble_eq_true rfl, Nat.le_of_ble_eq_true rfl⟩) hP hD hS hA (fun c_24_4 => absurd c_24_4 (by decide)) (fun c_24_4 H1 q9 ce hP1 hS1 hc1 hc2 hc3 => vx_out (fun x hx9 => (hEx x hx9).elim) hlocks hc1 hc2 hc3 (fun t ht hvm => ⟨_, hR.symm.trans hw, ⟨rfl, by rw [ht]; exact hP1, va_K.moved hvm hK, hD⟩, hS1.F ht⟩) hS1.2.2 (Nat.le_of_ble_eq_true rfl) (Nat.le_of_ble_eq_true rfl))
  · skip
    rw [if_pos c_16_3] at hw
    refine lv_iconst (v := 1) hx hb dX3_use_19 (by decide) ?_
    refine lv_goto (tgt := 24) hx hb dX3_use_20 (by decide) ?_
    refine nx_call (vx_runS (As := [.int (1 : Int32)]) (rest := []) ⟨hx, hb, hml, hown, hts⟩ (m_X3_needState l hl9 zk H.size (1 : Int32)) (cwS 1 hts (gS k_311 k_312 k_20 k_313) rfl rfl rfl (by decide +kernel) ⟨Nat.le_of_ble_eq_true rfl, Nat.le_of_ble_eq_true rfl⟩) (pn_need hz hS hA) rfl rfl hl.1 rfl (lv_room (Nat.le_of_ble_eq_true rfl)) dX3_use_24 ⟨Nat.le_of_ble_eq_true rfl, Nat.le_of_ble_eq_true rfl⟩) hP hD hS hA (fun c_24_5 => ?_) (fun c_24_5 => absurd (by decide) c_24_5)
    refine lv_aload_n hx hb dX3_use_27 rfl (lv_at hl 0 rfl) ?_
    refine va_get (D := (dC, dI)) (ci := 3) (v := .ref (a 7)) (C := RX3) (T := TX3) (N := 6) hx hb hts (iwX3 _) hown hK hP 0 rfl rfl 1 (by decide) (hts _ (kc k_155)) (fun _ h9 => h9) rfl dX3_use_28 ?_
    refine lv_iload_n hx hb dX3_use_31 rfl (lv_at hl 1 rfl) ?_
    refine lv_aload_n hx hb dX3_use_32 rfl (lv_at hl 0 rfl) ?_
    refine va_get (D := (dC, dI)) (ci := 3) (v := .int (σ 0 5)) (C := RX3) (T := TX3) (N := 6) hx hb hts (iwX3 _) hown hK hP 0 rfl rfl 5 (by decide) (hts _ (kc k_159)) (fun _ h9 => h9) rfl dX3_use_33 ?_
    have hFc := fr_all hD hS hA
    refine va_callv (va_runV (As := [.int x1, .int (σ 0 5)]) (rest := []) ⟨hx, hb, hml, hown, hts⟩ (m_X2_countUse l dC dI cI cZ a H.size σ x1 (σ 0 5) hn_2) (cwV 2 hts (gV k_399 k_400 k_401 k_22 k_402) rfl rfl rfl (by decide +kernel) ⟨Nat.le_of_ble_eq_true rfl, Nat.le_of_ble_eq_true rfl⟩) (pv_mu (q := (RX2, TX2, 12)) (q0 := 7) (ci := 2) hK hP hD rfl rfl) rfl rfl hl.1 rfl (lv_room (Nat.le_of_ble_eq_true rfl)) dX3_use_36 ⟨Nat.le_of_ble_eq_true rfl, Nat.le_of_ble_eq_true rfl⟩) hS (fun q _ h => hFc q h) hFc (fun σ9 t H1 locs ht hvm hw9 hB hz1 hk1 hS => ?_)
    obtain ⟨hP, hK1, hD1⟩ := hB
    rw [ht] at hP
    have hD := hD1.weaken (fun _ _ _ h => hFc _ h)
    clear hFc hD1 hK1
    subst hw9
    generalize H1 = H at hP hS ⊢
    refine vx_ret ?_
    refine W.widen (k := 2) (n := 12) (Nat.le_of_ble_eq_true rfl) (Nat.le_of_ble_eq_true rfl) ?_
    exact W.vret hx hb hr (fun t ht hW => ⟨⟨sp_countUse σ x1 (σ 0 5), rfl, hR.symm.trans hw, by rw [ht]; exact hP, va_K.moved hW.alike hK, hD⟩, hS.F ht⟩) hS.2.2 dX3_use_39
set_option maxHeartbeats 4000000 in
set_option maxRecDepth 100000 in
theorem m_X3_wash (l : Launch) (hl9 : l.stackTraces = false) (dC : Nat → ClassId) (dI : Nat → Nat → Nat) (cI cZ : ClassId) (a : Nat → Nat) (zk : Nat → Nat) (sz : Nat) (σ : St) (x1 : Int32) (x2 : Int32) (hiv : IV σ) : vx_Met l yX3_wash wsX3_wash ({ frames := 7, cells := 3, slots := 18, locals := 111 }) (pPu dC dI cI cZ a zk sz σ [.ref (a 0), .int x1, .int x2]) (va_Qi (fun r σ9 => sp_wash σ x1 x2 = .ok (r, σ9)) (bMu dC dI cI cZ a (va_A (cw cI cZ a σ) sz)) (va_A (cw cI cZ a σ) sz)) (vx_X (fun E : String => sp_wash σ x1 x2 = .error E) (bXu dC dI cI cZ a (va_A (cw cI cZ a σ) sz) σ) (va_A (cw cI cZ a σ) sz)) 3 18 (va_A (cw cI cZ a σ) sz) := by
  refine vx_ofW (cc := cX3_wash) (maxL := 3) (ret := (some .int)) (by decide) rfl ?_
  intro p e s m args below meth c s₁ B hml hEx hv
  obtain ⟨rfl, hsz, hP, hK, hD0, hz⟩ := hv
  have hx := B.exec
  have hb := B.bytes
  have hr := B.returns
  have hts := atoms_spec (ws := wsX3_wash) B.pre
  have hown : s.vm.findClass RX3 = some m.cls := findClass_of_methodNamed B.named
  have hlocks := B.notSynchronized
  subst hsz
  have hD := hD0.self (sz := s.heap.size)
  generalize hAe : va_A (cw cI cZ a σ) s.heap.size = A at hD hz ⊢
  have hA : ∀ q : Nat, s.heap.size ≤ q → A q := fun q h => by rw [← hAe]; exact Or.inr h
  clear hAe hD0
  obtain ⟨H, hHe⟩ : ∃ z, z = s.heap := ⟨_, rfl⟩
  obtain ⟨locs, hLe⟩ : ∃ z : List Loc, z = [] := ⟨_, rfl⟩
  have hS : va_S A s.heap H locs := by rw [hHe, hLe]; exact va_S.rf
  have hP : va_P (dC, dI) vwCl (cw cI cZ a σ) H := by rw [hHe]; exact hP
  refine W_ofH hHe hLe ?_
  clear hHe hLe
  have hl := lv_entry ([.ref (a 0), .int x1, .int x2]) (n := 3) (Nat.le_of_ble_eq_true rfl)
  rw [lg_entry_eq]
  generalize (lg_sl ([.ref (a 0), .int x1, .int x2]) ++ List.replicate (3 - (lg_sl ([.ref (a 0), .int x1, .int x2])).length) Slot.unset).toArray = ls at hl ⊢
  have hl : lv_has ls 3 [(0, .ref (a 0)), (1, .int x1), (2, .int x2)] := hl
  obtain ⟨R, hR⟩ : ∃ z, z = sp_wash σ x1 x2 := ⟨_, rfl⟩
  have hw := hR
  unfold sp_wash at hw
  refine lv_iload_n hx hb dX3_wash_0 rfl (lv_at hl 1 rfl) ?_
  refine lv_aload_n hx hb dX3_wash_1 rfl (lv_at hl 0 rfl) ?_
  refine va_get (D := (dC, dI)) (ci := 3) (v := .ref (a 7)) (C := RX3) (T := TX3) (N := 6) hx hb hts (iwX3 _) hown hK hP 0 rfl rfl 1 (by decide) (hts _ (kc k_155)) (fun _ h9 => h9) rfl dX3_wash_2 ?_
  refine va_get (D := (dC, dI)) (ci := 2) (v := .int (σ 7 11)) (C := RX2) (T := TX2) (N := 12) hx hb hts (iwX2 _) hown hK hP 7 rfl rfl 11 (by decide) (hts _ (kc k_97)) (fun _ h9 => h9) rfl dX3_wash_5 ?_
  refine nx_call (vx_runS (As := [.int x1, .int (σ 7 11)]) (rest := []) ⟨hx, hb, hml, hown, hts⟩ (m_X3_needKnown l hl9 zk H.size x1 (σ 7 11)) (cwS 2 hts (gS k_263 k_264 k_20 k_265) rfl rfl rfl (by decide +kernel) ⟨Nat.le_of_ble_eq_true rfl, Nat.le_of_ble_eq_true rfl⟩) (pn_need hz hS hA) rfl rfl hl.1 rfl (lv_room (Nat.le_of_ble_eq_true rfl)) dX3_wash_8 ⟨Nat.le_of_ble_eq_true rfl, Nat.le_of_ble_eq_true rfl⟩) hP hD hS hA (fun c_8_1 => ?_) (fun c_8_1 H1 q9 ce hP1 hS1 hc1 hc2 hc3 => vx_out (fun x hx9 => (hEx x hx9).elim) hlocks hc1 hc2 hc3 (fun t ht hvm => ⟨_, hR.symm.trans (hw.trans (if_neg c_8_1)), ⟨rfl, by rw [ht]; exact hP1, va_K.moved hvm hK, hD⟩, hS1.F ht⟩) hS1.2.2 (Nat.le_of_ble_eq_true rfl) (Nat.le_of_ble_eq_true rfl))
  rw [if_pos c_8_1] at hw
  have hn_2 : vp_in x1 40 := okK_cnt hiv c_8_1
  refine lv_aload_n hx hb dX3_wash_11 rfl (lv_at hl 0 rfl) ?_
  refine va_get (D := (dC, dI)) (ci := 3) (v := .ref (a 7)) (C := RX3) (T := TX3) (N := 6) hx hb hts (iwX3 _) hown hK hP 0 rfl rfl 1 (by decide) (hts _ (kc k_155)) (fun _ h9 => h9) rfl dX3_wash_12 ?_
  refine lv_iload_n hx hb dX3_wash_15 rfl (lv_at hl 1 rfl) ?_
  refine vp_callSi (W.runV (As := [.int x1]) (rest := []) ⟨hx, hb, hml, hown, hts⟩ (m_X2_isScrapped l dC dI cI cZ a σ x1 hn_2) (cwV 1 hts (gV k_372 k_373 k_374 k_22 k_375) rfl rfl rfl (by decide +kernel) ⟨Nat.le_of_ble_eq_true rfl, Nat.le_of_ble_eq_true rfl⟩) (pv_ro (q := (RX2, TX2, 12)) (q0 := 7) (ci := 2) hK hP rfl rfl) rfl rfl hl.1 rfl (lv_room (Nat.le_of_ble_eq_true rfl)) dX3_wash_16 ⟨Nat.le_of_ble_eq_true rfl, Nat.le_of_ble_eq_true rfl⟩) (fun r hrr => ?_)
  subst hrr
  refine lv_if_ne (tgt := 26) hx hb dX3_wash_19 (by decide) (fun c_19_3 => ?_) (fun c_19_3 => ?_)
  · skip
    rw [if_neg c_19_3] at hw
    refine lv_iconst (v := 0) hx hb dX3_wash_26 (by decide) ?_
    exact nx_call (vx_runS (As := [.int (0 : Int32)]) (rest := []) ⟨hx, hb, hml, hown, hts⟩ (m_X3_needState l hl9 zk H.size (0 : Int32)) (cwS 1 hts (gS k_311 k_312 k_20 k_313) rfl rfl rfl (by decide +kernel) ⟨Nat.le_of_ble_eq_true rfl, Nat.le_of_ble_eq_true rfl⟩) (pn_need hz hS hA) rfl rfl hl.1 rfl (lv_room (Nat.le_of_ble_eq_true rfl)) dX3_wash_27 ⟨Nat.le_of_ble_eq_true rfl, Nat.le_of_ble_eq_true rfl⟩) hP hD hS hA (fun c_27_4 => absurd c_27_4 (by decide)) (fun c_27_4 H1 q9 ce hP1 hS1 hc1 hc2 hc3 => vx_out (fun x hx9 => (hEx x hx9).elim) hlocks hc1 hc2 hc3 (fun t ht hvm => ⟨_, hR.symm.trans hw, ⟨rfl, by rw [ht]; exact hP1, va_K.moved hvm hK, hD⟩, hS1.F ht⟩) hS1.2.2 (Nat.le_of_ble_eq_true rfl) (Nat.le_of_ble_eq_true rfl))
  · skip
    rw [if_pos c_19_3] at hw
    refine lv_iconst (v := 1) hx hb dX3_wash_22 (by decide) ?_
    refine lv_goto (tgt := 27) hx hb dX3_wash_23 (by decide) ?_
    refine nx_call (vx_runS (As := [.int (1 : Int32)]) (rest := []) ⟨hx, hb, hml, hown, hts⟩ (m_X3_needState l hl9 zk H.size (1 : Int32)) (cwS 1 hts (gS k_311 k_312 k_20 k_313) rfl rfl rfl (by decide +kernel) ⟨Nat.le_of_ble_eq_true rfl, Nat.le_of_ble_eq_true rfl⟩) (pn_need hz hS hA) rfl rfl hl.1 rfl (lv_room (Nat.le_of_ble_eq_true rfl)) dX3_wash_27 ⟨Nat.le_of_ble_eq_true rfl, Nat.le_of_ble_eq_true rfl⟩) hP hD hS hA (fun c_27_5 => ?_) (fun c_27_5 => absurd (by decide) c_27_5)
    refine lv_aload_n hx hb dX3_wash_30 rfl (lv_at hl 0 rfl) ?_
    refine va_get (D := (dC, dI)) (ci := 3) (v := .ref (a 7)) (C := RX3) (T := TX3) (N := 6) hx hb hts (iwX3 _) hown hK hP 0 rfl rfl 1 (by decide) (hts _ (kc k_155)) (fun _ h9 => h9) rfl dX3_wash_31 ?_
    refine va_get (D := (dC, dI)) (ci := 2) (v := .ref (a 15)) (C := RX2) (T := TX2) (N := 12) hx hb hts (iwX2 _) hown hK hP 7 rfl rfl 7 (by decide) (hts _ (kc k_90)) (fun _ h9 => h9) rfl dX3_wash_34 ?_
    refine lv_iload_n hx hb dX3_wash_37 rfl (lv_at hl 1 rfl) ?_
    refine va_zald (D := (dC, dI)) (f := σ 15) hx hb hK hP 15 1 rfl rfl (i := x1) hn_2 dX3_wash_38 ?_
    refine lv_iload_n hx hb dX3_wash_39 rfl (lv_at hl 2 rfl) ?_
    refine lv_icmp_ne (tgt := 47) hx hb dX3_wash_40 (by decide) (fun c_40_6 => ?_) (fun c_40_6 => ?_)
    · skip
      rw [if_neg c_40_6] at hw
      refine lv_iconst (v := 0) hx hb dX3_wash_47 (by decide) ?_
      exact nx_call (vx_runS (As := [.int (0 : Int32)]) (rest := []) ⟨hx, hb, hml, hown, hts⟩ (m_X3_needState l hl9 zk H.size (0 : Int32)) (cwS 1 hts (gS k_311 k_312 k_20 k_313) rfl rfl rfl (by decide +kernel) ⟨Nat.le_of_ble_eq_true rfl, Nat.le_of_ble_eq_true rfl⟩) (pn_need hz hS hA) rfl rfl hl.1 rfl (lv_room (Nat.le_of_ble_eq_true rfl)) dX3_wash_48 ⟨Nat.le_of_ble_eq_true rfl, Nat.le_of_ble_eq_true rfl⟩) hP hD hS hA (fun c_48_7 => absurd c_48_7 (by decide)) (fun c_48_7 H1 q9 ce hP1 hS1 hc1 hc2 hc3 => vx_out (fun x hx9 => (hEx x hx9).elim) hlocks hc1 hc2 hc3 (fun t ht hvm => ⟨_, hR.symm.trans hw, ⟨rfl, by rw [ht]; exact hP1, va_K.moved hvm hK, hD⟩, hS1.F ht⟩) hS1.2.2 (Nat.le_of_ble_eq_true rfl) (Nat.le_of_ble_eq_true rfl))
    · skip
      rw [if_pos c_40_6] at hw
      refine lv_iconst (v := 1) hx hb dX3_wash_43 (by decide) ?_
      refine lv_goto (tgt := 48) hx hb dX3_wash_44 (by decide) ?_
      refine nx_call (vx_runS (As := [.int (1 : Int32)]) (rest := []) ⟨hx, hb, hml, hown, hts⟩ (m_X3_needState l hl9 zk H.size (1 : Int32)) (cwS 1 hts (gS k_311 k_312 k_20 k_313) rfl rfl rfl (by decide +kernel) ⟨Nat.le_of_ble_eq_true rfl, Nat.le_of_ble_eq_true rfl⟩) (pn_need hz hS hA) rfl rfl hl.1 rfl (lv_room (Nat.le_of_ble_eq_true rfl)) dX3_wash_48 ⟨Nat.le_of_ble_eq_true rfl, Nat.le_of_ble_eq_true rfl⟩) hP hD hS hA (fun c_48_8 => ?_) (fun c_48_8 => absurd (by decide) c_48_8)
      refine lv_aload_n hx hb dX3_wash_51 rfl (lv_at hl 0 rfl) ?_
      refine va_get (D := (dC, dI)) (ci := 3) (v := .ref (a 7)) (C := RX3) (T := TX3) (N := 6) hx hb hts (iwX3 _) hown hK hP 0 rfl rfl 1 (by decide) (hts _ (kc k_155)) (fun _ h9 => h9) rfl dX3_wash_52 ?_
      refine va_get (D := (dC, dI)) (ci := 2) (v := .ref (a 15)) (C := RX2) (T := TX2) (N := 12) hx hb hts (iwX2 _) hown hK hP 7 rfl rfl 7 (by decide) (hts _ (kc k_90)) (fun _ h9 => h9) rfl dX3_wash_55 ?_
      refine lv_iload_n hx hb dX3_wash_58 rfl (lv_at hl 1 rfl) ?_
      refine lv_iload_n hx hb dX3_wash_59 rfl (lv_at hl 2 rfl) ?_
      refine lv_if_ne (tgt := 67) hx hb dX3_wash_60 (by decide) (fun c_60_9 => ?_) (fun c_60_9 => ?_)
      · skip
        rw [if_neg c_60_9] at hw
        refine lv_iconst (v := 0) hx hb dX3_wash_67 (by decide) ?_
        refine va_zast (D := (dC, dI)) (f := σ 15) hx hb hK hP hD hS 15 1 rfl rfl (i := x1) (x := (0 : Int32)) hn_2 dX3_wash_68 (fun H locs hP hD hS => ?_)
        obtain ⟨σ_10, eσ_10⟩ : ∃ z : St, z = su σ 15 x1.toNatClampNeg (vp_nar .boolean (0 : Int32)) := ⟨_, rfl⟩
        replace hP := P_cw_15 hP
        replace hD := D_cw_15 hD
        rw [← eσ_10] at hP hD
        replace hw : R = (if x2 = 0 then (let σ_13 : St := su σ_10 14 x1.toNatClampNeg ((σ_10 14 x1.toNatClampNeg) + (1 : Int32)); .ok (σ_13 14 x1.toNatClampNeg, σ_13)) else (.ok (σ_10 14 x1.toNatClampNeg, σ_10))) := by subst eσ_10; exact hw
        have hiv_11 : IV σ_10 := by rw [eσ_10]; exact (iv_suq hiv (by decide))
        refine lv_iload_n hx hb dX3_wash_69 rfl (lv_at hl 2 rfl) ?_
        refine lv_if_ne (tgt := 86) hx hb dX3_wash_70 (by decide) (fun c_70_12 => ?_) (fun c_70_12 => ?_)
        · skip
          rw [if_neg c_70_12] at hw
          refine lv_aload_n hx hb dX3_wash_86 rfl (lv_at hl 0 rfl) ?_
          refine va_get (D := (dC, dI)) (ci := 3) (v := .ref (a 7)) (C := RX3) (T := TX3) (N := 6) hx hb hts (iwX3 _) hown hK hP 0 rfl rfl 1 (by decide) (hts _ (kc k_155)) (fun _ h9 => h9) rfl dX3_wash_87 ?_
          refine va_get (D := (dC, dI)) (ci := 2) (v := .ref (a 14)) (C := RX2) (T := TX2) (N := 12) hx hb hts (iwX2 _) hown hK hP 7 rfl rfl 6 (by decide) (hts _ (kc k_88)) (fun _ h9 => h9) rfl dX3_wash_90 ?_
          refine lv_iload_n hx hb dX3_wash_93 rfl (lv_at hl 1 rfl) ?_
          refine va_iald (D := (dC, dI)) (f := σ_10 14) hx hb hK hP 14 0 rfl rfl (i := x1) hn_2 dX3_wash_94 ?_
          refine vx_ret ?_
          refine W.widen (k := 3) (n := 18) (Nat.le_of_ble_eq_true rfl) (Nat.le_of_ble_eq_true rfl) ?_
          exact W.iret (v := σ_10 14 x1.toNatClampNeg) hx hb hr (fun t ht hW => ⟨⟨σ_10 14 x1.toNatClampNeg, σ_10, rfl, hR.symm.trans hw, by rw [ht]; exact hP, va_K.moved hW.alike hK, hD⟩, hS.F ht⟩) hS.2.2 dX3_wash_95
        · skip
          rw [if_pos c_70_12] at hw
          refine lv_aload_n hx hb dX3_wash_73 rfl (lv_at hl 0 rfl) ?_
          refine va_get (D := (dC, dI)) (ci := 3) (v := .ref (a 7)) (C := RX3) (T := TX3) (N := 6) hx hb hts (iwX3 _) hown hK hP 0 rfl rfl 1 (by decide) (hts _ (kc k_155)) (fun _ h9 => h9) rfl dX3_wash_74 ?_
          refine va_get (D := (dC, dI)) (ci := 2) (v := .ref (a 14)) (C := RX2) (T := TX2) (N := 12) hx hb hts (iwX2 _) hown hK hP 7 rfl rfl 6 (by decide) (hts _ (kc k_88)) (fun _ h9 => h9) rfl dX3_wash_77 ?_
          refine lv_iload_n hx hb dX3_wash_80 rfl (lv_at hl 1 rfl) ?_
          refine lv_dup2_11 hx hb dX3_wash_81 rfl rfl ?_
          refine va_iald (D := (dC, dI)) (f := σ_10 14) hx hb hK hP 14 0 rfl rfl (i := x1) hn_2 dX3_wash_82 ?_
          refine lv_iconst (v := 1) hx hb dX3_wash_83 (by decide) ?_
          refine lv_iadd hx hb dX3_wash_84 ?_
          refine va_iast (D := (dC, dI)) (f := σ_10 14) hx hb hK hP hD hS 14 0 rfl rfl (i := x1) (x := (σ_10 14 x1.toNatClampNeg) + (1 : Int32)) hn_2 dX3_wash_85 (fun H locs hP hD hS => ?_)
          obtain ⟨σ_13, eσ_13⟩ : ∃ z : St, z = su σ_10 14 x1.toNatClampNeg ((σ_10 14 x1.toNatClampNeg) + (1 : Int32)) := ⟨_, rfl⟩
          replace hP := P_cw_14 hP
          replace hD := D_cw_14 hD
          rw [← eσ_13] at hP hD
          replace hw : R = (.ok (σ_13 14 x1.toNatClampNeg, σ_13)) := by subst eσ_13; exact hw
          have hiv_14 : IV σ_13 := by rw [eσ_13]; exact (iv_suq hiv_11 (by decide))
          refine lv_aload_n hx hb dX3_wash_86 rfl (lv_at hl 0 rfl) ?_
          refine va_get (D := (dC, dI)) (ci := 3) (v := .ref (a 7)) (C := RX3) (T := TX3) (N := 6) hx hb hts (iwX3 _) hown hK hP 0 rfl rfl 1 (by decide) (hts _ (kc k_155)) (fun _ h9 => h9) rfl dX3_wash_87 ?_
          refine va_get (D := (dC, dI)) (ci := 2) (v := .ref (a 14)) (C := RX2) (T := TX2) (N := 12) hx hb hts (iwX2 _) hown hK hP 7 rfl rfl 6 (by decide) (hts _ (kc k_88)) (fun _ h9 => h9) rfl dX3_wash_90 ?_
          refine lv_iload_n hx hb dX3_wash_93 rfl (lv_at hl 1 rfl) ?_
          refine va_iald (D := (dC, dI)) (f := σ_13 14) hx hb hK hP 14 0 rfl rfl (i := x1) hn_2 dX3_wash_94 ?_
          refine vx_ret ?_
          refine W.widen (k := 3) (n := 18) (Nat.le_of_ble_eq_true rfl) (Nat.le_of_ble_eq_true rfl) ?_
          exact W.iret (v := σ_13 14 x1.toNatClampNeg) hx hb hr (fun t ht hW => ⟨⟨σ_13 14 x1.toNatClampNeg, σ_13, rfl, hR.symm.trans hw, by rw [ht]; exact hP, va_K.moved hW.alike hK, hD⟩, hS.F ht⟩) hS.2.2 dX3_wash_95
      · skip
        rw [if_pos c_60_9] at hw
        refine lv_iconst (v := 1) hx hb dX3_wash_63 (by decide) ?_
        refine lv_goto (tgt := 68) hx hb dX3_wash_64 (by decide) ?_
        refine va_zast (D := (dC, dI)) (f := σ 15) hx hb hK hP hD hS 15 1 rfl rfl (i := x1) (x := (1 : Int32)) hn_2 dX3_wash_68 (fun H locs hP hD hS => ?_)
        obtain ⟨σ_15, eσ_15⟩ : ∃ z : St, z = su σ 15 x1.toNatClampNeg (vp_nar .boolean (1 : Int32)) := ⟨_, rfl⟩
        replace hP := P_cw_15 hP
        replace hD := D_cw_15 hD
        rw [← eσ_15] at hP hD
        replace hw : R = (if x2 = 0 then (let σ_18 : St := su σ_15 14 x1.toNatClampNeg ((σ_15 14 x1.toNatClampNeg) + (1 : Int32)); .ok (σ_18 14 x1.toNatClampNeg, σ_18)) else (.ok (σ_15 14 x1.toNatClampNeg, σ_15))) := by subst eσ_15; exact hw
        have hiv_16 : IV σ_15 := by rw [eσ_15]; exact (iv_suq hiv (by decide))
        refine lv_iload_n hx hb dX3_wash_69 rfl (lv_at hl 2 rfl) ?_
        refine lv_if_ne (tgt := 86) hx hb dX3_wash_70 (by decide) (fun c_70_17 => ?_) (fun c_70_17 => ?_)
        · skip
          rw [if_neg c_70_17] at hw
          refine lv_aload_n hx hb dX3_wash_86 rfl (lv_at hl 0 rfl) ?_
          refine va_get (D := (dC, dI)) (ci := 3) (v := .ref (a 7)) (C := RX3) (T := TX3) (N := 6) hx hb hts (iwX3 _) hown hK hP 0 rfl rfl 1 (by decide) (hts _ (kc k_155)) (fun _ h9 => h9) rfl dX3_wash_87 ?_
          refine va_get (D := (dC, dI)) (ci := 2) (v := .ref (a 14)) (C := RX2) (T := TX2) (N := 12) hx hb hts (iwX2 _) hown hK hP 7 rfl rfl 6 (by decide) (hts _ (kc k_88)) (fun _ h9 => h9) rfl dX3_wash_90 ?_
          refine lv_iload_n hx hb dX3_wash_93 rfl (lv_at hl 1 rfl) ?_
          refine va_iald (D := (dC, dI)) (f := σ_15 14) hx hb hK hP 14 0 rfl rfl (i := x1) hn_2 dX3_wash_94 ?_
          refine vx_ret ?_
          refine W.widen (k := 3) (n := 18) (Nat.le_of_ble_eq_true rfl) (Nat.le_of_ble_eq_true rfl) ?_
          exact W.iret (v := σ_15 14 x1.toNatClampNeg) hx hb hr (fun t ht hW => ⟨⟨σ_15 14 x1.toNatClampNeg, σ_15, rfl, hR.symm.trans hw, by rw [ht]; exact hP, va_K.moved hW.alike hK, hD⟩, hS.F ht⟩) hS.2.2 dX3_wash_95
        · skip
          rw [if_pos c_70_17] at hw
          refine lv_aload_n hx hb dX3_wash_73 rfl (lv_at hl 0 rfl) ?_
          refine va_get (D := (dC, dI)) (ci := 3) (v := .ref (a 7)) (C := RX3) (T := TX3) (N := 6) hx hb hts (iwX3 _) hown hK hP 0 rfl rfl 1 (by decide) (hts _ (kc k_155)) (fun _ h9 => h9) rfl dX3_wash_74 ?_
          refine va_get (D := (dC, dI)) (ci := 2) (v := .ref (a 14)) (C := RX2) (T := TX2) (N := 12) hx hb hts (iwX2 _) hown hK hP 7 rfl rfl 6 (by decide) (hts _ (kc k_88)) (fun _ h9 => h9) rfl dX3_wash_77 ?_
          refine lv_iload_n hx hb dX3_wash_80 rfl (lv_at hl 1 rfl) ?_
          refine lv_dup2_11 hx hb dX3_wash_81 rfl rfl ?_
          refine va_iald (D := (dC, dI)) (f := σ_15 14) hx hb hK hP 14 0 rfl rfl (i := x1) hn_2 dX3_wash_82 ?_
          refine lv_iconst (v := 1) hx hb dX3_wash_83 (by decide) ?_
          refine lv_iadd hx hb dX3_wash_84 ?_
          refine va_iast (D := (dC, dI)) (f := σ_15 14) hx hb hK hP hD hS 14 0 rfl rfl (i := x1) (x := (σ_15 14 x1.toNatClampNeg) + (1 : Int32)) hn_2 dX3_wash_85 (fun H locs hP hD hS => ?_)
          obtain ⟨σ_18, eσ_18⟩ : ∃ z : St, z = su σ_15 14 x1.toNatClampNeg ((σ_15 14 x1.toNatClampNeg) + (1 : Int32)) := ⟨_, rfl⟩
          replace hP := P_cw_14 hP
          replace hD := D_cw_14 hD
          rw [← eσ_18] at hP hD
          replace hw : R = (.ok (σ_18 14 x1.toNatClampNeg, σ_18)) := by subst eσ_18; exact hw
          have hiv_19 : IV σ_18 := by rw [eσ_18]; exact (iv_suq hiv_16 (by decide))
          refine lv_aload_n hx hb dX3_wash_86 rfl (lv_at hl 0 rfl) ?_
          refine va_get (D := (dC, dI)) (ci := 3) (v := .ref (a 7)) (C := RX3) (T := TX3) (N := 6) hx hb hts (iwX3 _) hown hK hP 0 rfl rfl 1 (by decide) (hts _ (kc k_155)) (fun _ h9 => h9) rfl dX3_wash_87 ?_
          refine va_get (D := (dC, dI)) (ci := 2) (v := .ref (a 14)) (C := RX2) (T := TX2) (N := 12) hx hb hts (iwX2 _) hown hK hP 7 rfl rfl 6 (by decide) (hts _ (kc k_88)) (fun _ h9 => h9) rfl dX3_wash_90 ?_
          refine lv_iload_n hx hb dX3_wash_93 rfl (lv_at hl 1 rfl) ?_
          refine va_iald (D := (dC, dI)) (f := σ_18 14) hx hb hK hP 14 0 rfl rfl (i := x1) hn_2 dX3_wash_94 ?_
          refine vx_ret ?_
          refine W.widen (k := 3) (n := 18) (Nat.le_of_ble_eq_true rfl) (Nat.le_of_ble_eq_true rfl) ?_
          exact W.iret (v := σ_18 14 x1.toNatClampNeg) hx hb hr (fun t ht hW => ⟨⟨σ_18 14 x1.toNatClampNeg, σ_18, rfl, hR.symm.trans hw, by rw [ht]; exact hP, va_K.moved hW.alike hK, hD⟩, hS.F ht⟩) hS.2.2 dX3_wash_95
set_option maxHeartbeats 4000000 in
set_option maxRecDepth 100000 in
theorem m_X3_result (l : Launch) (hl9 : l.stackTraces = false) (dC : Nat → ClassId) (dI : Nat → Nat → Nat) (cI cZ : ClassId) (a : Nat → Nat) (zk : Nat → Nat) (sz : Nat) (σ : St) (x1 : Int32) (x2 : Int32) (x3 : Int32) (hiv : IV σ) : vx_Met l yX3_result wsX3_result ({ frames := 7, cells := 4, slots := 24, locals := 112 }) (pPu dC dI cI cZ a zk sz σ [.ref (a 0), .int x1, .int x2, .int x3]) (va_Qi (fun r σ9 => sp_result σ x1 x2 x3 = .ok (r, σ9)) (bMu dC dI cI cZ a (va_A (cw cI cZ a σ) sz)) (va_A (cw cI cZ a σ) sz)) (vx_X (fun E : String => sp_result σ x1 x2 x3 = .error E) (bXu dC dI cI cZ a (va_A (cw cI cZ a σ) sz) σ) (va_A (cw cI cZ a σ) sz)) 4 24 (va_A (cw cI cZ a σ) sz) := by
  refine vx_ofW (cc := cX3_result) (maxL := 5) (ret := (some .int)) (by decide) rfl ?_
  intro p e s m args below meth c s₁ B hml hEx hv
  obtain ⟨rfl, hsz, hP, hK, hD0, hz⟩ := hv
  have hx := B.exec
  have hb := B.bytes
  have hr := B.returns
  have hts := atoms_spec (ws := wsX3_result) B.pre
  have hown : s.vm.findClass RX3 = some m.cls := findClass_of_methodNamed B.named
  have hlocks := B.notSynchronized
  subst hsz
  have hD := hD0.self (sz := s.heap.size)
  generalize hAe : va_A (cw cI cZ a σ) s.heap.size = A at hD hz ⊢
  have hA : ∀ q : Nat, s.heap.size ≤ q → A q := fun q h => by rw [← hAe]; exact Or.inr h
  clear hAe hD0
  obtain ⟨H, hHe⟩ : ∃ z, z = s.heap := ⟨_, rfl⟩
  obtain ⟨locs, hLe⟩ : ∃ z : List Loc, z = [] := ⟨_, rfl⟩
  have hS : va_S A s.heap H locs := by rw [hHe, hLe]; exact va_S.rf
  have hP : va_P (dC, dI) vwCl (cw cI cZ a σ) H := by rw [hHe]; exact hP
  refine W_ofH hHe hLe ?_
  clear hHe hLe
  have hl := lv_entry ([.ref (a 0), .int x1, .int x2, .int x3]) (n := 5) (Nat.le_of_ble_eq_true rfl)
  rw [lg_entry_eq]
  generalize (lg_sl ([.ref (a 0), .int x1, .int x2, .int x3]) ++ List.replicate (5 - (lg_sl ([.ref (a 0), .int x1, .int x2, .int x3])).length) Slot.unset).toArray = ls at hl ⊢
  have hl : lv_has ls 5 [(0, .ref (a 0)), (1, .int x1), (2, .int x2), (3, .int x3)] := hl
  obtain ⟨R, hR⟩ : ∃ z, z = sp_result σ x1 x2 x3 := ⟨_, rfl⟩
  have hw := hR
  unfold sp_result at hw
  refine lv_iload_n hx hb dX3_result_0 rfl (lv_at hl 1 rfl) ?_
  refine lv_aload_n hx hb dX3_result_1 rfl (lv_at hl 0 rfl) ?_
  refine va_get (D := (dC, dI)) (ci := 3) (v := .ref (a 7)) (C := RX3) (T := TX3) (N := 6) hx hb hts (iwX3 _) hown hK hP 0 rfl rfl 1 (by decide) (hts _ (kc k_155)) (fun _ h9 => h9) rfl dX3_result_2 ?_
  refine va_get (D := (dC, dI)) (ci := 2) (v := .int (σ 7 11)) (C := RX2) (T := TX2) (N := 12) hx hb hts (iwX2 _) hown hK hP 7 rfl rfl 11 (by decide) (hts _ (kc k_97)) (fun _ h9 => h9) rfl dX3_result_5 ?_
  refine nx_call (vx_runS (As := [.int x1, .int (σ 7 11)]) (rest := []) ⟨hx, hb, hml, hown, hts⟩ (m_X3_needKnown l hl9 zk H.size x1 (σ 7 11)) (cwS 2 hts (gS k_263 k_264 k_20 k_265) rfl rfl rfl (by decide +kernel) ⟨Nat.le_of_ble_eq_true rfl, Nat.le_of_ble_eq_true rfl⟩) (pn_need hz hS hA) rfl rfl hl.1 rfl (lv_room (Nat.le_of_ble_eq_true rfl)) dX3_result_8 ⟨Nat.le_of_ble_eq_true rfl, Nat.le_of_ble_eq_true rfl⟩) hP hD hS hA (fun c_8_1 => ?_) (fun c_8_1 H1 q9 ce hP1 hS1 hc1 hc2 hc3 => vx_out (fun x hx9 => (hEx x hx9).elim) hlocks hc1 hc2 hc3 (fun t ht hvm => ⟨_, hR.symm.trans (hw.trans (if_neg c_8_1)), ⟨rfl, by rw [ht]; exact hP1, va_K.moved hvm hK, hD⟩, hS1.F ht⟩) hS1.2.2 (Nat.le_of_ble_eq_true rfl) (Nat.le_of_ble_eq_true rfl))
  rw [if_pos c_8_1] at hw
  have hn_2 : vp_in x1 40 := okK_cnt hiv c_8_1
  refine lv_iload_n hx hb dX3_result_11 rfl (lv_at hl 2 rfl) ?_
  refine lv_iconst (v := 3) hx hb dX3_result_12 (by decide) ?_
  refine nx_call (vx_runS (As := [.int x2, .int (3 : Int32)]) (rest := []) ⟨hx, hb, hml, hown, hts⟩ (m_X3_needKnown l hl9 zk H.size x2 (3 : Int32)) (cwS 2 hts (gS k_263 k_264 k_20 k_265) rfl rfl rfl (by decide +kernel) ⟨Nat.le_of_ble_eq_true rfl, Nat.le_of_ble_eq_true rfl⟩) (pn_need hz hS hA) rfl rfl hl.1 rfl (lv_room (Nat.le_of_ble_eq_true rfl)) dX3_result_13 ⟨Nat.le_of_ble_eq_true rfl, Nat.le_of_ble_eq_true rfl⟩) hP hD hS hA (fun c_13_3 => ?_) (fun c_13_3 H1 q9 ce hP1 hS1 hc1 hc2 hc3 => vx_out (fun x hx9 => (hEx x hx9).elim) hlocks hc1 hc2 hc3 (fun t ht hvm => ⟨_, hR.symm.trans (hw.trans (if_neg c_13_3)), ⟨rfl, by rw [ht]; exact hP1, va_K.moved hvm hK, hD⟩, hS1.F ht⟩) hS1.2.2 (Nat.le_of_ble_eq_true rfl) (Nat.le_of_ble_eq_true rfl))
  rw [if_pos c_13_3] at hw
  have hn_4 : vp_in x2 3 := okK_in c_13_3 (n := 3) (by decide) (by decide)
  refine lv_iload_n hx hb dX3_result_16 rfl (lv_at hl 3 rfl) ?_
  refine lv_iconst (v := 0) hx hb dX3_result_17 (by decide) ?_
  refine lv_sipush (v := 10000) hx hb dX3_result_18 (by decide) ?_
  refine nx_call (vx_runS (As := [.int x3, .int (0 : Int32), .int (10000 : Int32)]) (rest := []) ⟨hx, hb, hml, hown, hts⟩ (m_X3_needRange l hl9 zk H.size x3 (0 : Int32) (10000 : Int32)) (cwS 3 hts (gS k_182 k_183 k_20 k_184) rfl rfl rfl (by decide +kernel) ⟨Nat.le_of_ble_eq_true rfl, Nat.le_of_ble_eq_true rfl⟩) (pn_need hz hS hA) rfl rfl hl.1 rfl (lv_room (Nat.le_of_ble_eq_true rfl)) dX3_result_21 ⟨Nat.le_of_ble_eq_true rfl, Nat.le_of_ble_eq_true rfl⟩) hP hD hS hA (fun c_21_5 => ?_) (fun c_21_5 H1 q9 ce hP1 hS1 hc1 hc2 hc3 => vx_out (fun x hx9 => (hEx x hx9).elim) hlocks hc1 hc2 hc3 (fun t ht hvm => ⟨_, hR.symm.trans (hw.trans (if_neg c_21_5)), ⟨rfl, by rw [ht]; exact hP1, va_K.moved hvm hK, hD⟩, hS1.F ht⟩) hS1.2.2 (Nat.le_of_ble_eq_true rfl) (Nat.le_of_ble_eq_true rfl))
  rw [if_pos c_21_5] at hw
  refine lv_aload_n hx hb dX3_result_24 rfl (lv_at hl 0 rfl) ?_
  refine va_get (D := (dC, dI)) (ci := 3) (v := .ref (a 7)) (C := RX3) (T := TX3) (N := 6) hx hb hts (iwX3 _) hown hK hP 0 rfl rfl 1 (by decide) (hts _ (kc k_155)) (fun _ h9 => h9) rfl dX3_result_25 ?_
  refine lv_iload_n hx hb dX3_result_28 rfl (lv_at hl 1 rfl) ?_
  refine vp_callSi (W.runV (As := [.int x1]) (rest := []) ⟨hx, hb, hml, hown, hts⟩ (m_X2_isScrapped l dC dI cI cZ a σ x1 hn_2) (cwV 1 hts (gV k_372 k_373 k_374 k_22 k_375) rfl rfl rfl (by decide +kernel) ⟨Nat.le_of_ble_eq_true rfl, Nat.le_of_ble_eq_true rfl⟩) (pv_ro (q := (RX2, TX2, 12)) (q0 := 7) (ci := 2) hK hP rfl rfl) rfl rfl hl.1 rfl (lv_room (Nat.le_of_ble_eq_true rfl)) dX3_result_29 ⟨Nat.le_of_ble_eq_true rfl, Nat.le_of_ble_eq_true rfl⟩) (fun r hrr => ?_)
  subst hrr
  refine lv_if_ne (tgt := 39) hx hb dX3_result_32 (by decide) (fun c_32_6 => ?_) (fun c_32_6 => ?_)
  · skip
    rw [if_neg c_32_6] at hw
    refine lv_iconst (v := 0) hx hb dX3_result_39 (by decide) ?_
    exact nx_call (vx_runS (As := [.int (0 : Int32)]) (rest := []) ⟨hx, hb, hml, hown, hts⟩ (m_X3_needState l hl9 zk H.size (0 : Int32)) (cwS 1 hts (gS k_311 k_312 k_20 k_313) rfl rfl rfl (by decide +kernel) ⟨Nat.le_of_ble_eq_true rfl, Nat.le_of_ble_eq_true rfl⟩) (pn_need hz hS hA) rfl rfl hl.1 rfl (lv_room (Nat.le_of_ble_eq_true rfl)) dX3_result_40 ⟨Nat.le_of_ble_eq_true rfl, Nat.le_of_ble_eq_true rfl⟩) hP hD hS hA (fun c_40_7 => absurd c_40_7 (by decide)) (fun c_40_7 H1 q9 ce hP1 hS1 hc1 hc2 hc3 => vx_out (fun x hx9 => (hEx x hx9).elim) hlocks hc1 hc2 hc3 (fun t ht hvm => ⟨_, hR.symm.trans hw, ⟨rfl, by rw [ht]; exact hP1, va_K.moved hvm hK, hD⟩, hS1.F ht⟩) hS1.2.2 (Nat.le_of_ble_eq_true rfl) (Nat.le_of_ble_eq_true rfl))
  · skip
    rw [if_pos c_32_6] at hw
    refine lv_iconst (v := 1) hx hb dX3_result_35 (by decide) ?_
    refine lv_goto (tgt := 40) hx hb dX3_result_36 (by decide) ?_
    refine nx_call (vx_runS (As := [.int (1 : Int32)]) (rest := []) ⟨hx, hb, hml, hown, hts⟩ (m_X3_needState l hl9 zk H.size (1 : Int32)) (cwS 1 hts (gS k_311 k_312 k_20 k_313) rfl rfl rfl (by decide +kernel) ⟨Nat.le_of_ble_eq_true rfl, Nat.le_of_ble_eq_true rfl⟩) (pn_need hz hS hA) rfl rfl hl.1 rfl (lv_room (Nat.le_of_ble_eq_true rfl)) dX3_result_40 ⟨Nat.le_of_ble_eq_true rfl, Nat.le_of_ble_eq_true rfl⟩) hP hD hS hA (fun c_40_8 => ?_) (fun c_40_8 => absurd (by decide) c_40_8)
    refine lv_aload_n hx hb dX3_result_43 rfl (lv_at hl 0 rfl) ?_
    refine va_get (D := (dC, dI)) (ci := 3) (v := .ref (a 1)) (C := RX3) (T := TX3) (N := 6) hx hb hts (iwX3 _) hown hK hP 0 rfl rfl 0 (by decide) (hts _ (kc k_154)) (fun _ h9 => h9) rfl dX3_result_44 ?_
    refine lv_aload_n hx hb dX3_result_47 rfl (lv_at hl 0 rfl) ?_
    refine va_get (D := (dC, dI)) (ci := 3) (v := .ref (a 7)) (C := RX3) (T := TX3) (N := 6) hx hb hts (iwX3 _) hown hK hP 0 rfl rfl 1 (by decide) (hts _ (kc k_155)) (fun _ h9 => h9) rfl dX3_result_48 ?_
    refine va_get (D := (dC, dI)) (ci := 2) (v := .ref (a 8)) (C := RX2) (T := TX2) (N := 12) hx hb hts (iwX2 _) hown hK hP 7 rfl rfl 0 (by decide) (hts _ (kc k_77)) (fun _ h9 => h9) rfl dX3_result_51 ?_
    refine lv_iload_n hx hb dX3_result_54 rfl (lv_at hl 1 rfl) ?_
    refine va_iald (D := (dC, dI)) (f := σ 8) hx hb hK hP 8 0 rfl rfl (i := x1) hn_2 dX3_result_55 ?_
    refine lv_iload_n hx hb dX3_result_56 rfl (lv_at hl 2 rfl) ?_
    refine lv_iload_n hx hb dX3_result_57 rfl (lv_at hl 3 rfl) ?_
    refine vp_callSi (W.runV (As := [.int (σ 8 x1.toNatClampNeg), .int x2, .int x3]) (rest := []) ⟨hx, hb, hml, hown, hts⟩ (m_X0_gradeOf l dC dI cI cZ a σ (σ 8 x1.toNatClampNeg) x2 x3 (iv_k hiv hn_2) hn_4) (cwV 3 hts (gV k_417 k_418 k_419 k_21 k_420) rfl rfl rfl (by decide +kernel) ⟨Nat.le_of_ble_eq_true rfl, Nat.le_of_ble_eq_true rfl⟩) (pv_ro (q := (RX0, TX0, 5)) (q0 := 1) (ci := 0) hK hP rfl rfl) rfl rfl hl.1 rfl (lv_room (Nat.le_of_ble_eq_true rfl)) dX3_result_58 ⟨Nat.le_of_ble_eq_true rfl, Nat.le_of_ble_eq_true rfl⟩) (fun r hrr => ?_)
    subst hrr
    refine lv_istore (lv' := [(4, .int (sp_gradeOf σ (σ 8 x1.toNatClampNeg) x2 x3)), (0, .ref (a 0)), (1, .int x1), (2, .int x2), (3, .int x3)]) hx hb dX3_result_61 hl (by decide) rfl (fun ls hl => ?_)
    refine lv_aload_n hx hb dX3_result_63 rfl (lv_at hl 1 rfl) ?_
    refine va_get (D := (dC, dI)) (ci := 3) (v := .ref (a 7)) (C := RX3) (T := TX3) (N := 6) hx hb hts (iwX3 _) hown hK hP 0 rfl rfl 1 (by decide) (hts _ (kc k_155)) (fun _ h9 => h9) rfl dX3_result_64 ?_
    refine lv_iload_n hx hb dX3_result_67 rfl (lv_at hl 2 rfl) ?_
    refine lv_iload_n hx hb dX3_result_68 rfl (lv_at hl 3 rfl) ?_
    refine lv_iload hx hb dX3_result_69 (lv_at hl 0 rfl) ?_
    refine lv_aload_n hx hb dX3_result_71 rfl (lv_at hl 1 rfl) ?_
    refine va_get (D := (dC, dI)) (ci := 3) (v := .int (σ 0 5)) (C := RX3) (T := TX3) (N := 6) hx hb hts (iwX3 _) hown hK hP 0 rfl rfl 5 (by decide) (hts _ (kc k_159)) (fun _ h9 => h9) rfl dX3_result_72 ?_
    have hFc := fr_all hD hS hA
    refine va_calli (va_runV (As := [.int x1, .int x2, .int (sp_gradeOf σ (σ 8 x1.toNatClampNeg) x2 x3), .int (σ 0 5)]) (rest := []) ⟨hx, hb, hml, hown, hts⟩ (m_X2_enterGrade l dC dI cI cZ a H.size σ x1 x2 (sp_gradeOf σ (σ 8 x1.toNatClampNeg) x2 x3) (σ 0 5) hn_2 hn_4) (cwV 4 hts (gV k_421 k_422 k_423 k_22 k_424) rfl rfl rfl (by decide +kernel) ⟨Nat.le_of_ble_eq_true rfl, Nat.le_of_ble_eq_true rfl⟩) (pv_mu (q := (RX2, TX2, 12)) (q0 := 7) (ci := 2) hK hP hD rfl rfl) rfl rfl hl.1 rfl (lv_room (Nat.le_of_ble_eq_true rfl)) dX3_result_75 ⟨Nat.le_of_ble_eq_true rfl, Nat.le_of_ble_eq_true rfl⟩) hS (fun q _ h => hFc q h) hFc (fun r σ9 t H1 locs ht hvm hw9 hB hz1 hk1 hS => ?_)
    obtain ⟨hP, hK1, hD1⟩ := hB
    rw [ht] at hP
    have hD := hD1.weaken (fun _ _ _ h => hFc _ h)
    clear hFc hD1 hK1
    obtain ⟨rfl, rfl⟩ : r = (sp_enterGrade σ x1 x2 (sp_gradeOf σ (σ 8 x1.toNatClampNeg) x2 x3) (σ 0 5)).1 ∧ σ9 = (sp_enterGrade σ x1 x2 (sp_gradeOf σ (σ 8 x1.toNatClampNeg) x2 x3) (σ 0 5)).2 := ⟨congrArg Prod.fst hw9, congrArg Prod.snd hw9⟩
    generalize H1 = H at hP hS ⊢
    refine vx_ret ?_
    refine W.widen (k := 4) (n := 24) (Nat.le_of_ble_eq_true rfl) (Nat.le_of_ble_eq_true rfl) ?_
    exact W.iret (v := (sp_enterGrade σ x1 x2 (sp_gradeOf σ (σ 8 x1.toNatClampNeg) x2 x3) (σ 0 5)).1) hx hb hr (fun t ht hW => ⟨⟨(sp_enterGrade σ x1 x2 (sp_gradeOf σ (σ 8 x1.toNatClampNeg) x2 x3) (σ 0 5)).1, (sp_enterGrade σ x1 x2 (sp_gradeOf σ (σ 8 x1.toNatClampNeg) x2 x3) (σ 0 5)).2, rfl, hR.symm.trans hw, by rw [ht]; exact hP, va_K.moved hW.alike hK, hD⟩, hS.F ht⟩) hS.2.2 dX3_result_78
set_option maxHeartbeats 4000000 in
set_option maxRecDepth 100000 in
theorem m_X3_load (l : Launch) (hl9 : l.stackTraces = false) (dC : Nat → ClassId) (dI : Nat → Nat → Nat) (cI cZ : ClassId) (a : Nat → Nat) (zk : Nat → Nat) (sz : Nat) (σ : St) (x1 : Int32) (x2 : Int32) (hiv : IV σ) : vx_Met l yX3_load wsX3_load ({ frames := 7, cells := 3, slots := 18, locals := 111 }) (pPu dC dI cI cZ a zk sz σ [.ref (a 0), .int x1, .int x2]) (va_Qv (fun σ9 => sp_load σ x1 x2 = .ok (0, σ9)) (bMu dC dI cI cZ a (va_A (cw cI cZ a σ) sz)) (va_A (cw cI cZ a σ) sz)) (vx_X (fun E : String => sp_load σ x1 x2 = .error E) (bXu dC dI cI cZ a (va_A (cw cI cZ a σ) sz) σ) (va_A (cw cI cZ a σ) sz)) 3 18 (va_A (cw cI cZ a σ) sz) := by
  refine vx_ofW (cc := cX3_load) (maxL := 3) (ret := none) (by decide) rfl ?_
  intro p e s m args below meth c s₁ B hml hEx hv
  obtain ⟨rfl, hsz, hP, hK, hD0, hz⟩ := hv
  have hx := B.exec
  have hb := B.bytes
  have hr := B.returns
  have hts := atoms_spec (ws := wsX3_load) B.pre
  have hown : s.vm.findClass RX3 = some m.cls := findClass_of_methodNamed B.named
  have hlocks := B.notSynchronized
  subst hsz
  have hD := hD0.self (sz := s.heap.size)
  generalize hAe : va_A (cw cI cZ a σ) s.heap.size = A at hD hz ⊢
  have hA : ∀ q : Nat, s.heap.size ≤ q → A q := fun q h => by rw [← hAe]; exact Or.inr h
  clear hAe hD0
  obtain ⟨H, hHe⟩ : ∃ z, z = s.heap := ⟨_, rfl⟩
  obtain ⟨locs, hLe⟩ : ∃ z : List Loc, z = [] := ⟨_, rfl⟩
  have hS : va_S A s.heap H locs := by rw [hHe, hLe]; exact va_S.rf
  have hP : va_P (dC, dI) vwCl (cw cI cZ a σ) H := by rw [hHe]; exact hP
  refine W_ofH hHe hLe ?_
  clear hHe hLe
  have hl := lv_entry ([.ref (a 0), .int x1, .int x2]) (n := 3) (Nat.le_of_ble_eq_true rfl)
  rw [lg_entry_eq]
  generalize (lg_sl ([.ref (a 0), .int x1, .int x2]) ++ List.replicate (3 - (lg_sl ([.ref (a 0), .int x1, .int x2])).length) Slot.unset).toArray = ls at hl ⊢
  have hl : lv_has ls 3 [(0, .ref (a 0)), (1, .int x1), (2, .int x2)] := hl
  obtain ⟨R, hR⟩ : ∃ z, z = sp_load σ x1 x2 := ⟨_, rfl⟩
  have hw := hR
  unfold sp_load at hw
  refine lv_iload_n hx hb dX3_load_0 rfl (lv_at hl 1 rfl) ?_
  refine lv_aload_n hx hb dX3_load_1 rfl (lv_at hl 0 rfl) ?_
  refine va_get (D := (dC, dI)) (ci := 3) (v := .ref (a 7)) (C := RX3) (T := TX3) (N := 6) hx hb hts (iwX3 _) hown hK hP 0 rfl rfl 1 (by decide) (hts _ (kc k_155)) (fun _ h9 => h9) rfl dX3_load_2 ?_
  refine va_get (D := (dC, dI)) (ci := 2) (v := .int (σ 7 11)) (C := RX2) (T := TX2) (N := 12) hx hb hts (iwX2 _) hown hK hP 7 rfl rfl 11 (by decide) (hts _ (kc k_97)) (fun _ h9 => h9) rfl dX3_load_5 ?_
  refine nx_call (vx_runS (As := [.int x1, .int (σ 7 11)]) (rest := []) ⟨hx, hb, hml, hown, hts⟩ (m_X3_needKnown l hl9 zk H.size x1 (σ 7 11)) (cwS 2 hts (gS k_263 k_264 k_20 k_265) rfl rfl rfl (by decide +kernel) ⟨Nat.le_of_ble_eq_true rfl, Nat.le_of_ble_eq_true rfl⟩) (pn_need hz hS hA) rfl rfl hl.1 rfl (lv_room (Nat.le_of_ble_eq_true rfl)) dX3_load_8 ⟨Nat.le_of_ble_eq_true rfl, Nat.le_of_ble_eq_true rfl⟩) hP hD hS hA (fun c_8_1 => ?_) (fun c_8_1 H1 q9 ce hP1 hS1 hc1 hc2 hc3 => vx_out (fun x hx9 => (hEx x hx9).elim) hlocks hc1 hc2 hc3 (fun t ht hvm => ⟨_, hR.symm.trans (hw.trans (if_neg c_8_1)), ⟨rfl, by rw [ht]; exact hP1, va_K.moved hvm hK, hD⟩, hS1.F ht⟩) hS1.2.2 (Nat.le_of_ble_eq_true rfl) (Nat.le_of_ble_eq_true rfl))
  rw [if_pos c_8_1] at hw
  have hn_2 : vp_in x1 40 := okK_cnt hiv c_8_1
  refine lv_iload_n hx hb dX3_load_11 rfl (lv_at hl 2 rfl) ?_
  refine lv_bipush (v := 20) hx hb dX3_load_12 (by decide) ?_
  refine nx_call (vx_runS (As := [.int x2, .int (20 : Int32)]) (rest := []) ⟨hx, hb, hml, hown, hts⟩ (m_X3_needKnown l hl9 zk H.size x2 (20 : Int32)) (cwS 2 hts (gS k_263 k_264 k_20 k_265) rfl rfl rfl (by decide +kernel) ⟨Nat.le_of_ble_eq_true rfl, Nat.le_of_ble_eq_true rfl⟩) (pn_need hz hS hA) rfl rfl hl.1 rfl (lv_room (Nat.le_of_ble_eq_true rfl)) dX3_load_14 ⟨Nat.le_of_ble_eq_true rfl, Nat.le_of_ble_eq_true rfl⟩) hP hD hS hA (fun c_14_3 => ?_) (fun c_14_3 H1 q9 ce hP1 hS1 hc1 hc2 hc3 => vx_out (fun x hx9 => (hEx x hx9).elim) hlocks hc1 hc2 hc3 (fun t ht hvm => ⟨_, hR.symm.trans (hw.trans (if_neg c_14_3)), ⟨rfl, by rw [ht]; exact hP1, va_K.moved hvm hK, hD⟩, hS1.F ht⟩) hS1.2.2 (Nat.le_of_ble_eq_true rfl) (Nat.le_of_ble_eq_true rfl))
  rw [if_pos c_14_3] at hw
  have hn_4 : vp_in x2 20 := okK_in c_14_3 (n := 20) (by decide) (by decide)
  refine lv_aload_n hx hb dX3_load_17 rfl (lv_at hl 0 rfl) ?_
  refine lv_iload_n hx hb dX3_load_18 rfl (lv_at hl 1 rfl) ?_
  refine vp_callSi (W.runV (As := [.int x1]) (rest := []) ⟨hx, hb, hml, hown, hts⟩ (m_X3_reasonBarred l dC dI cI cZ a σ x1 hiv hn_2) (cwV 1 hts (gV k_368 k_370 k_1 k_20 k_371) rfl rfl rfl (by decide +kernel) ⟨Nat.le_of_ble_eq_true rfl, Nat.le_of_ble_eq_true rfl⟩) (pv_ro (q := (RX3, TX3, 6)) (q0 := 0) (ci := 3) hK hP rfl rfl) rfl rfl hl.1 rfl (lv_room (Nat.le_of_ble_eq_true rfl)) dX3_load_19 ⟨Nat.le_of_ble_eq_true rfl, Nat.le_of_ble_eq_true rfl⟩) (fun r hrr => ?_)
  subst hrr
  refine lv_if_ne (tgt := 29) hx hb dX3_load_22 (by decide) (fun c_22_5 => ?_) (fun c_22_5 => ?_)
  · skip
    rw [if_neg c_22_5] at hw
    refine lv_iconst (v := 0) hx hb dX3_load_29 (by decide) ?_
    exact nx_call (vx_runS (As := [.int (0 : Int32)]) (rest := []) ⟨hx, hb, hml, hown, hts⟩ (m_X3_needState l hl9 zk H.size (0 : Int32)) (cwS 1 hts (gS k_311 k_312 k_20 k_313) rfl rfl rfl (by decide +kernel) ⟨Nat.le_of_ble_eq_true rfl, Nat.le_of_ble_eq_true rfl⟩) (pn_need hz hS hA) rfl rfl hl.1 rfl (lv_room (Nat.le_of_ble_eq_true rfl)) dX3_load_30 ⟨Nat.le_of_ble_eq_true rfl, Nat.le_of_ble_eq_true rfl⟩) hP hD hS hA (fun c_30_6 => absurd c_30_6 (by decide)) (fun c_30_6 H1 q9 ce hP1 hS1 hc1 hc2 hc3 => vx_out (fun x hx9 => (hEx x hx9).elim) hlocks hc1 hc2 hc3 (fun t ht hvm => ⟨_, hR.symm.trans hw, ⟨rfl, by rw [ht]; exact hP1, va_K.moved hvm hK, hD⟩, hS1.F ht⟩) hS1.2.2 (Nat.le_of_ble_eq_true rfl) (Nat.le_of_ble_eq_true rfl))
  · skip
    rw [if_pos c_22_5] at hw
    refine lv_iconst (v := 1) hx hb dX3_load_25 (by decide) ?_
    refine lv_goto (tgt := 30) hx hb dX3_load_26 (by decide) ?_
    refine nx_call (vx_runS (As := [.int (1 : Int32)]) (rest := []) ⟨hx, hb, hml, hown, hts⟩ (m_X3_needState l hl9 zk H.size (1 : Int32)) (cwS 1 hts (gS k_311 k_312 k_20 k_313) rfl rfl rfl (by decide +kernel) ⟨Nat.le_of_ble_eq_true rfl, Nat.le_of_ble_eq_true rfl⟩) (pn_need hz hS hA) rfl rfl hl.1 rfl (lv_room (Nat.le_of_ble_eq_true rfl)) dX3_load_30 ⟨Nat.le_of_ble_eq_true rfl, Nat.le_of_ble_eq_true rfl⟩) hP hD hS hA (fun c_30_7 => ?_) (fun c_30_7 => absurd (by decide) c_30_7)
    refine lv_aload_n hx hb dX3_load_33 rfl (lv_at hl 0 rfl) ?_
    refine va_get (D := (dC, dI)) (ci := 3) (v := .ref (a 7)) (C := RX3) (T := TX3) (N := 6) hx hb hts (iwX3 _) hown hK hP 0 rfl rfl 1 (by decide) (hts _ (kc k_155)) (fun _ h9 => h9) rfl dX3_load_34 ?_
    refine va_get (D := (dC, dI)) (ci := 2) (v := .ref (a 11)) (C := RX2) (T := TX2) (N := 12) hx hb hts (iwX2 _) hown hK hP 7 rfl rfl 3 (by decide) (hts _ (kc k_82)) (fun _ h9 => h9) rfl dX3_load_37 ?_
    refine lv_iload_n hx hb dX3_load_40 rfl (lv_at hl 1 rfl) ?_
    refine lv_iload_n hx hb dX3_load_41 rfl (lv_at hl 2 rfl) ?_
    refine va_iast (D := (dC, dI)) (f := σ 11) hx hb hK hP hD hS 11 0 rfl rfl (i := x1) (x := x2) hn_2 dX3_load_42 (fun H locs hP hD hS => ?_)
    obtain ⟨σ_8, eσ_8⟩ : ∃ z : St, z = su σ 11 x1.toNatClampNeg x2 := ⟨_, rfl⟩
    replace hP := P_cw_11 hP
    replace hD := D_cw_11 hD
    rw [← eσ_8] at hP hD
    replace hw : R = (.ok (0, σ_8)) := by subst eσ_8; exact hw
    have hiv_9 : IV σ_8 := by rw [eσ_8]; exact (iv_suq hiv (by decide))
    refine vx_ret ?_
    refine W.widen (k := 3) (n := 18) (Nat.le_of_ble_eq_true rfl) (Nat.le_of_ble_eq_true rfl) ?_
    exact W.vret hx hb hr (fun t ht hW => ⟨⟨σ_8, rfl, hR.symm.trans hw, by rw [ht]; exact hP, va_K.moved hW.alike hK, hD⟩, hS.F ht⟩) hS.2.2 dX3_load_43
set_option maxHeartbeats 4000000 in
set_option maxRecDepth 100000 in
theorem m_X3_recall (l : Launch) (hl9 : l.stackTraces = false) (dC : Nat → ClassId) (dI : Nat → Nat → Nat) (cI cZ : ClassId) (a : Nat → Nat) (zk : Nat → Nat) (sz : Nat) (σ : St) (x1 : Int32) (x2 : Int32) (hiv : IV σ) : vx_Met l yX3_recall wsX3_recall ({ frames := 7, cells := 2, slots := 12, locals := 111 }) (pPu dC dI cI cZ a zk sz σ [.ref (a 0), .int x1, .int x2]) (va_Qi (fun r σ9 => sp_recall σ x1 x2 = .ok (r, σ9)) (bMu dC dI cI cZ a (va_A (cw cI cZ a σ) sz)) (va_A (cw cI cZ a σ) sz)) (vx_X (fun E : String => sp_recall σ x1 x2 = .error E) (bXu dC dI cI cZ a (va_A (cw cI cZ a σ) sz) σ) (va_A (cw cI cZ a σ) sz)) 2 12 (va_A (cw cI cZ a σ) sz) := by
  refine vx_ofW (cc := cX3_recall) (maxL := 3) (ret := (some .int)) (by decide) rfl ?_
  intro p e s m args below meth c s₁ B hml hEx hv
  obtain ⟨rfl, hsz, hP, hK, hD0, hz⟩ := hv
  have hx := B.exec
  have hb := B.bytes
  have hr := B.returns
  have hts := atoms_spec (ws := wsX3_recall) B.pre
  have hown : s.vm.findClass RX3 = some m.cls := findClass_of_methodNamed B.named
  have hlocks := B.notSynchronized
  subst hsz
  have hD := hD0.self (sz := s.heap.size)
  generalize hAe : va_A (cw cI cZ a σ) s.heap.size = A at hD hz ⊢
  have hA : ∀ q : Nat, s.heap.size ≤ q → A q := fun q h => by rw [← hAe]; exact Or.inr h
  clear hAe hD0
  obtain ⟨H, hHe⟩ : ∃ z, z = s.heap := ⟨_, rfl⟩
  obtain ⟨locs, hLe⟩ : ∃ z : List Loc, z = [] := ⟨_, rfl⟩
  have hS : va_S A s.heap H locs := by rw [hHe, hLe]; exact va_S.rf
  have hP : va_P (dC, dI) vwCl (cw cI cZ a σ) H := by rw [hHe]; exact hP
  refine W_ofH hHe hLe ?_
  clear hHe hLe
  have hl := lv_entry ([.ref (a 0), .int x1, .int x2]) (n := 3) (Nat.le_of_ble_eq_true rfl)
  rw [lg_entry_eq]
  generalize (lg_sl ([.ref (a 0), .int x1, .int x2]) ++ List.replicate (3 - (lg_sl ([.ref (a 0), .int x1, .int x2])).length) Slot.unset).toArray = ls at hl ⊢
  have hl : lv_has ls 3 [(0, .ref (a 0)), (1, .int x1), (2, .int x2)] := hl
  obtain ⟨R, hR⟩ : ∃ z, z = sp_recall σ x1 x2 := ⟨_, rfl⟩
  have hw := hR
  unfold sp_recall at hw
  refine lv_iload_n hx hb dX3_recall_0 rfl (lv_at hl 1 rfl) ?_
  refine lv_bipush (v := 10) hx hb dX3_recall_1 (by decide) ?_
  refine nx_call (vx_runS (As := [.int x1, .int (10 : Int32)]) (rest := []) ⟨hx, hb, hml, hown, hts⟩ (m_X3_needKnown l hl9 zk H.size x1 (10 : Int32)) (cwS 2 hts (gS k_263 k_264 k_20 k_265) rfl rfl rfl (by decide +kernel) ⟨Nat.le_of_ble_eq_true rfl, Nat.le_of_ble_eq_true rfl⟩) (pn_need hz hS hA) rfl rfl hl.1 rfl (lv_room (Nat.le_of_ble_eq_true rfl)) dX3_recall_3 ⟨Nat.le_of_ble_eq_true rfl, Nat.le_of_ble_eq_true rfl⟩) hP hD hS hA (fun c_3_1 => ?_) (fun c_3_1 H1 q9 ce hP1 hS1 hc1 hc2 hc3 => vx_out (fun x hx9 => (hEx x hx9).elim) hlocks hc1 hc2 hc3 (fun t ht hvm => ⟨_, hR.symm.trans (hw.trans (if_neg c_3_1)), ⟨rfl, by rw [ht]; exact hP1, va_K.moved hvm hK, hD⟩, hS1.F ht⟩) hS1.2.2 (Nat.le_of_ble_eq_true rfl) (Nat.le_of_ble_eq_true rfl))
  rw [if_pos c_3_1] at hw
  have hn_2 : vp_in x1 10 := okK_in c_3_1 (n := 10) (by decide) (by decide)
  refine lv_aload_n hx hb dX3_recall_6 rfl (lv_at hl 0 rfl) ?_
  refine va_get (D := (dC, dI)) (ci := 3) (v := .ref (a 25)) (C := RX3) (T := TX3) (N := 6) hx hb hts (iwX3 _) hown hK hP 0 rfl rfl 3 (by decide) (hts _ (kc k_157)) (fun _ h9 => h9) rfl dX3_recall_7 ?_
  refine lv_iload_n hx hb dX3_recall_10 rfl (lv_at hl 1 rfl) ?_
  refine va_zald (D := (dC, dI)) (f := σ 25) hx hb hK hP 25 1 rfl rfl (i := x1) hn_2 dX3_recall_11 ?_
  refine lv_iload_n hx hb dX3_recall_12 rfl (lv_at hl 2 rfl) ?_
  refine lv_icmp_eq (tgt := 20) hx hb dX3_recall_13 (by decide) (fun c_13_3 => ?_) (fun c_13_3 => ?_)
  · skip
    rw [if_pos c_13_3] at hw
    refine lv_iconst (v := 0) hx hb dX3_recall_20 (by decide) ?_
    exact nx_call (vx_runS (As := [.int (0 : Int32)]) (rest := []) ⟨hx, hb, hml, hown, hts⟩ (m_X3_needState l hl9 zk H.size (0 : Int32)) (cwS 1 hts (gS k_311 k_312 k_20 k_313) rfl rfl rfl (by decide +kernel) ⟨Nat.le_of_ble_eq_true rfl, Nat.le_of_ble_eq_true rfl⟩) (pn_need hz hS hA) rfl rfl hl.1 rfl (lv_room (Nat.le_of_ble_eq_true rfl)) dX3_recall_21 ⟨Nat.le_of_ble_eq_true rfl, Nat.le_of_ble_eq_true rfl⟩) hP hD hS hA (fun c_21_4 => absurd c_21_4 (by decide)) (fun c_21_4 H1 q9 ce hP1 hS1 hc1 hc2 hc3 => vx_out (fun x hx9 => (hEx x hx9).elim) hlocks hc1 hc2 hc3 (fun t ht hvm => ⟨_, hR.symm.trans hw, ⟨rfl, by rw [ht]; exact hP1, va_K.moved hvm hK, hD⟩, hS1.F ht⟩) hS1.2.2 (Nat.le_of_ble_eq_true rfl) (Nat.le_of_ble_eq_true rfl))
  · skip
    rw [if_neg c_13_3] at hw
    refine lv_iconst (v := 1) hx hb dX3_recall_16 (by decide) ?_
    refine lv_goto (tgt := 21) hx hb dX3_recall_17 (by decide) ?_
    refine nx_call (vx_runS (As := [.int (1 : Int32)]) (rest := []) ⟨hx, hb, hml, hown, hts⟩ (m_X3_needState l hl9 zk H.size (1 : Int32)) (cwS 1 hts (gS k_311 k_312 k_20 k_313) rfl rfl rfl (by decide +kernel) ⟨Nat.le_of_ble_eq_true rfl, Nat.le_of_ble_eq_true rfl⟩) (pn_need hz hS hA) rfl rfl hl.1 rfl (lv_room (Nat.le_of_ble_eq_true rfl)) dX3_recall_21 ⟨Nat.le_of_ble_eq_true rfl, Nat.le_of_ble_eq_true rfl⟩) hP hD hS hA (fun c_21_5 => ?_) (fun c_21_5 => absurd (by decide) c_21_5)
    refine lv_aload_n hx hb dX3_recall_24 rfl (lv_at hl 0 rfl) ?_
    refine va_get (D := (dC, dI)) (ci := 3) (v := .ref (a 25)) (C := RX3) (T := TX3) (N := 6) hx hb hts (iwX3 _) hown hK hP 0 rfl rfl 3 (by decide) (hts _ (kc k_157)) (fun _ h9 => h9) rfl dX3_recall_25 ?_
    refine lv_iload_n hx hb dX3_recall_28 rfl (lv_at hl 1 rfl) ?_
    refine lv_iload_n hx hb dX3_recall_29 rfl (lv_at hl 2 rfl) ?_
    refine va_zast (D := (dC, dI)) (f := σ 25) hx hb hK hP hD hS 25 1 rfl rfl (i := x1) (x := x2) hn_2 dX3_recall_30 (fun H locs hP hD hS => ?_)
    obtain ⟨σ_6, eσ_6⟩ : ∃ z : St, z = su σ 25 x1.toNatClampNeg (vp_nar .boolean x2) := ⟨_, rfl⟩
    replace hP := P_cw_25 hP
    replace hD := D_cw_25 hD
    rw [← eσ_6] at hP hD
    replace hw : R = (.ok (sp_countLeftOf σ_6 x1, σ_6)) := by subst eσ_6; exact hw
    have hiv_7 : IV σ_6 := by rw [eσ_6]; exact (iv_suq hiv (by decide))
    refine lv_aload_n hx hb dX3_recall_31 rfl (lv_at hl 0 rfl) ?_
    refine va_get (D := (dC, dI)) (ci := 3) (v := .ref (a 7)) (C := RX3) (T := TX3) (N := 6) hx hb hts (iwX3 _) hown hK hP 0 rfl rfl 1 (by decide) (hts _ (kc k_155)) (fun _ h9 => h9) rfl dX3_recall_32 ?_
    refine lv_iload_n hx hb dX3_recall_35 rfl (lv_at hl 1 rfl) ?_
    refine vp_callSi (W.runV (As := [.int x1]) (rest := []) ⟨hx, hb, hml, hown, hts⟩ (m_X2_countLeftOf l dC dI cI cZ a σ_6 x1 hiv_7) (cwV 1 hts (gV k_439 k_440 k_441 k_22 k_442) rfl rfl rfl (by decide +kernel) ⟨Nat.le_of_ble_eq_true rfl, Nat.le_of_ble_eq_true rfl⟩) (pv_ro (q := (RX2, TX2, 12)) (q0 := 7) (ci := 2) hK hP rfl rfl) rfl rfl hl.1 rfl (lv_room (Nat.le_of_ble_eq_true rfl)) dX3_recall_36 ⟨Nat.le_of_ble_eq_true rfl, Nat.le_of_ble_eq_true rfl⟩) (fun r hrr => ?_)
    subst hrr
    refine vx_ret ?_
    refine W.widen (k := 2) (n := 12) (Nat.le_of_ble_eq_true rfl) (Nat.le_of_ble_eq_true rfl) ?_
    exact W.iret (v := sp_countLeftOf σ_6 x1) hx hb hr (fun t ht hW => ⟨⟨sp_countLeftOf σ_6 x1, σ_6, rfl, hR.symm.trans hw, by rw [ht]; exact hP, va_K.moved hW.alike hK, hD⟩, hS.F ht⟩) hS.2.2 dX3_recall_39
set_option maxHeartbeats 4000000 in
set_option maxRecDepth 100000 in
theorem m_X3_recalled (l : Launch) (hl9 : l.stackTraces = false) (dC : Nat → ClassId) (dI : Nat → Nat → Nat) (cI cZ : ClassId) (a : Nat → Nat) (zk : Nat → Nat) (sz : Nat) (σ : St) (x1 : Int32) (x2 : Int32) (hiv : IV σ) : vx_Met l yX3_recalled wsX3_recalled ({ frames := 7, cells := 2, slots := 12, locals := 112 }) (pPu dC dI cI cZ a zk sz σ [.ref (a 0), .int x1, .int x2]) (va_Qi (fun r σ9 => sp_recalled σ x1 x2 = .ok (r, σ9)) (bMu dC dI cI cZ a (va_A (cw cI cZ a σ) sz)) (va_A (cw cI cZ a σ) sz)) (vx_X (fun E : String => sp_recalled σ x1 x2 = .error E) (bXu dC dI cI cZ a (va_A (cw cI cZ a σ) sz) σ) (va_A (cw cI cZ a σ) sz)) 2 12 (va_A (cw cI cZ a σ) sz) := by
  refine vx_ofW (cc := cX3_recalled) (maxL := 4) (ret := (some .int)) (by decide) rfl ?_
  intro p e s m args below meth c s₁ B hml hEx hv
  obtain ⟨rfl, hsz, hP, hK, hD0, hz⟩ := hv
  have hx := B.exec
  have hb := B.bytes
  have hr := B.returns
  have hts := atoms_spec (ws := wsX3_recalled) B.pre
  have hown : s.vm.findClass RX3 = some m.cls := findClass_of_methodNamed B.named
  have hlocks := B.notSynchronized
  subst hsz
  have hD := hD0.self (sz := s.heap.size)
  generalize hAe : va_A (cw cI cZ a σ) s.heap.size = A at hD hz ⊢
  have hA : ∀ q : Nat, s.heap.size ≤ q → A q := fun q h => by rw [← hAe]; exact Or.inr h
  clear hAe hD0
  obtain ⟨H, hHe⟩ : ∃ z, z = s.heap := ⟨_, rfl⟩
  obtain ⟨locs, hLe⟩ : ∃ z : List Loc, z = [] := ⟨_, rfl⟩
  have hS : va_S A s.heap H locs := by rw [hHe, hLe]; exact va_S.rf
  have hP : va_P (dC, dI) vwCl (cw cI cZ a σ) H := by rw [hHe]; exact hP
  refine W_ofH hHe hLe ?_
  clear hHe hLe
  have hl := lv_entry ([.ref (a 0), .int x1, .int x2]) (n := 4) (Nat.le_of_ble_eq_true rfl)
  rw [lg_entry_eq]
  generalize (lg_sl ([.ref (a 0), .int x1, .int x2]) ++ List.replicate (4 - (lg_sl ([.ref (a 0), .int x1, .int x2])).length) Slot.unset).toArray = ls at hl ⊢
  have hl : lv_has ls 4 [(0, .ref (a 0)), (1, .int x1), (2, .int x2)] := hl
  obtain ⟨R, hR⟩ : ∃ z, z = sp_recalled σ x1 x2 := ⟨_, rfl⟩
  have hw := hR
  unfold sp_recalled at hw
  refine lv_iload_n hx hb dX3_recalled_0 rfl (lv_at hl 1 rfl) ?_
  refine lv_bipush (v := 10) hx hb dX3_recalled_1 (by decide) ?_
  refine nx_call (vx_runS (As := [.int x1, .int (10 : Int32)]) (rest := []) ⟨hx, hb, hml, hown, hts⟩ (m_X3_needKnown l hl9 zk H.size x1 (10 : Int32)) (cwS 2 hts (gS k_263 k_264 k_20 k_265) rfl rfl rfl (by decide +kernel) ⟨Nat.le_of_ble_eq_true rfl, Nat.le_of_ble_eq_true rfl⟩) (pn_need hz hS hA) rfl rfl hl.1 rfl (lv_room (Nat.le_of_ble_eq_true rfl)) dX3_recalled_3 ⟨Nat.le_of_ble_eq_true rfl, Nat.le_of_ble_eq_true rfl⟩) hP hD hS hA (fun c_3_1 => ?_) (fun c_3_1 H1 q9 ce hP1 hS1 hc1 hc2 hc3 => vx_out (fun x hx9 => (hEx x hx9).elim) hlocks hc1 hc2 hc3 (fun t ht hvm => ⟨_, hR.symm.trans (hw.trans (if_neg c_3_1)), ⟨rfl, by rw [ht]; exact hP1, va_K.moved hvm hK, hD⟩, hS1.F ht⟩) hS1.2.2 (Nat.le_of_ble_eq_true rfl) (Nat.le_of_ble_eq_true rfl))
  rw [if_pos c_3_1] at hw
  have hn_2 : vp_in x1 10 := okK_in c_3_1 (n := 10) (by decide) (by decide)
  refine lv_iload_n hx hb dX3_recalled_6 rfl (lv_at hl 2 rfl) ?_
  refine lv_iconst (v := 0) hx hb dX3_recalled_7 (by decide) ?_
  refine lv_ldc (own := RX3) (v := 2147483647) hx hb hown (hts _ (kc k_380)) dX3_recalled_8 ?_
  refine nx_call (vx_runS (As := [.int x2, .int (0 : Int32), .int (2147483647 : Int32)]) (rest := []) ⟨hx, hb, hml, hown, hts⟩ (m_X3_needRange l hl9 zk H.size x2 (0 : Int32) (2147483647 : Int32)) (cwS 3 hts (gS k_182 k_183 k_20 k_184) rfl rfl rfl (by decide +kernel) ⟨Nat.le_of_ble_eq_true rfl, Nat.le_of_ble_eq_true rfl⟩) (pn_need hz hS hA) rfl rfl hl.1 rfl (lv_room (Nat.le_of_ble_eq_true rfl)) dX3_recalled_10 ⟨Nat.le_of_ble_eq_true rfl, Nat.le_of_ble_eq_true rfl⟩) hP hD hS hA (fun c_10_3 => ?_) (fun c_10_3 H1 q9 ce hP1 hS1 hc1 hc2 hc3 => vx_out (fun x hx9 => (hEx x hx9).elim) hlocks hc1 hc2 hc3 (fun t ht hvm => ⟨_, hR.symm.trans (hw.trans (if_neg c_10_3)), ⟨rfl, by rw [ht]; exact hP1, va_K.moved hvm hK, hD⟩, hS1.F ht⟩) hS1.2.2 (Nat.le_of_ble_eq_true rfl) (Nat.le_of_ble_eq_true rfl))
  rw [if_pos c_10_3] at hw
  refine lv_aload_n hx hb dX3_recalled_13 rfl (lv_at hl 0 rfl) ?_
  refine va_get (D := (dC, dI)) (ci := 3) (v := .ref (a 7)) (C := RX3) (T := TX3) (N := 6) hx hb hts (iwX3 _) hown hK hP 0 rfl rfl 1 (by decide) (hts _ (kc k_155)) (fun _ h9 => h9) rfl dX3_recalled_14 ?_
  refine lv_iload_n hx hb dX3_recalled_17 rfl (lv_at hl 1 rfl) ?_
  refine lv_iload_n hx hb dX3_recalled_18 rfl (lv_at hl 2 rfl) ?_
  refine vp_callSi (W.runV (As := [.int x1, .int x2]) (rest := []) ⟨hx, hb, hml, hown, hts⟩ (m_X2_findLeftOf l dC dI cI cZ a σ x1 x2 hiv) (cwV 2 hts (gV k_455 k_456 k_457 k_22 k_458) rfl rfl rfl (by decide +kernel) ⟨Nat.le_of_ble_eq_true rfl, Nat.le_of_ble_eq_true rfl⟩) (pv_ro (q := (RX2, TX2, 12)) (q0 := 7) (ci := 2) hK hP rfl rfl) rfl rfl hl.1 rfl (lv_room (Nat.le_of_ble_eq_true rfl)) dX3_recalled_19 ⟨Nat.le_of_ble_eq_true rfl, Nat.le_of_ble_eq_true rfl⟩) (fun r hrr => ?_)
  subst hrr
  refine lv_istore_n (lv' := [(3, .int (sp_findLeftOf σ x1 x2)), (0, .ref (a 0)), (1, .int x1), (2, .int x2)]) hx hb dX3_recalled_22 rfl hl (by decide) rfl (fun ls hl => ?_)
  refine lv_iload_n hx hb dX3_recalled_23 rfl (lv_at hl 0 rfl) ?_
  refine lv_iconst (v := -1) hx hb dX3_recalled_24 (by decide) ?_
  refine lv_icmp_ne (tgt := 32) hx hb dX3_recalled_25 (by decide) (fun c_25_4 => ?_) (fun c_25_4 => ?_)
  · skip
    rw [if_neg c_25_4] at hw
    have hf_5 : vp_in (sp_findLeftOf σ x1 x2) 40 := find_in hiv c_25_4
    refine lv_bipush (v := 100) hx hb dX3_recalled_32 (by decide) ?_
    refine lv_iload_n hx hb dX3_recalled_34 rfl (lv_at hl 0 rfl) ?_
    refine lv_imul hx hb dX3_recalled_35 ?_
    refine lv_aload_n hx hb dX3_recalled_36 rfl (lv_at hl 1 rfl) ?_
    refine va_get (D := (dC, dI)) (ci := 3) (v := .ref (a 7)) (C := RX3) (T := TX3) (N := 6) hx hb hts (iwX3 _) hown hK hP 0 rfl rfl 1 (by decide) (hts _ (kc k_155)) (fun _ h9 => h9) rfl dX3_recalled_37 ?_
    refine va_get (D := (dC, dI)) (ci := 2) (v := .ref (a 11)) (C := RX2) (T := TX2) (N := 12) hx hb hts (iwX2 _) hown hK hP 7 rfl rfl 3 (by decide) (hts _ (kc k_82)) (fun _ h9 => h9) rfl dX3_recalled_40 ?_
    refine lv_iload_n hx hb dX3_recalled_43 rfl (lv_at hl 0 rfl) ?_
    refine va_iald (D := (dC, dI)) (f := σ 11) hx hb hK hP 11 0 rfl rfl (i := sp_findLeftOf σ x1 x2) hf_5 dX3_recalled_44 ?_
    refine lv_iadd hx hb dX3_recalled_45 ?_
    refine vx_ret ?_
    refine W.widen (k := 2) (n := 12) (Nat.le_of_ble_eq_true rfl) (Nat.le_of_ble_eq_true rfl) ?_
    exact W.iret (v := ((100 : Int32) * (sp_findLeftOf σ x1 x2)) + (σ 11 (sp_findLeftOf σ x1 x2).toNatClampNeg)) hx hb hr (fun t ht hW => ⟨⟨((100 : Int32) * (sp_findLeftOf σ x1 x2)) + (σ 11 (sp_findLeftOf σ x1 x2).toNatClampNeg), σ, rfl, hR.symm.trans hw, by rw [ht]; exact hP, va_K.moved hW.alike hK, hD⟩, hS.F ht⟩) hS.2.2 dX3_recalled_46
  · skip
    rw [if_pos c_25_4] at hw
    refine lv_iconst (v := -1) hx hb dX3_recalled_28 (by decide) ?_
    refine lv_goto (tgt := 46) hx hb dX3_recalled_29 (by decide) ?_
    refine vx_ret ?_
    refine W.widen (k := 2) (n := 12) (Nat.le_of_ble_eq_true rfl) (Nat.le_of_ble_eq_true rfl) ?_
    exact W.iret (v := (-1 : Int32)) hx hb hr (fun t ht hW => ⟨⟨(-1 : Int32), σ, rfl, hR.symm.trans hw, by rw [ht]; exact hP, va_K.moved hW.alike hK, hD⟩, hS.F ht⟩) hS.2.2 dX3_recalled_46
