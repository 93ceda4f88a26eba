set_option maxHeartbeats 4000000 in
set_option maxRecDepth 100000 in
theorem m_X3_week (l : Launch) (hl9 : l.stackTraces = false) (dC : Nat → ClassId) (dI : Nat → Nat → Nat) (cI cZ : ClassId) (a : Nat → Nat) (zk : Nat → Nat) (sz : Nat) (σ : St) (x1 : Int32) (hiv : IV σ) : vx_Met l yX3_week wsX3_week ({ frames := 7, cells := 1, slots := 6, locals := 111 }) (pPu dC dI cI cZ a zk sz σ [.ref (a 0), .int x1]) (va_Qi (fun r σ9 => sp_week σ x1 = .ok (r, σ9)) (bMu dC dI cI cZ a (va_A (cw cI cZ a σ) sz)) (va_A (cw cI cZ a σ) sz)) (vx_X (fun E : String => sp_week σ x1 = .error E) (bXu dC dI cI cZ a (va_A (cw cI cZ a σ) sz) σ) (va_A (cw cI cZ a σ) sz)) 1 6 (va_A (cw cI cZ a σ) sz) := by
  refine vx_ofW (cc := cX3_week) (maxL := 2) (ret := (some .int)) (by decide) rfl ?_
  intro p e s m args below meth c s₁ B hml hEx hv
  obtain ⟨rfl, hsz, hP, hK, hD0, hz⟩ := hv
  have hx := B.exec
  have hb := B.bytes
  have hr := B.returns
  have hts := atoms_spec (ws := wsX3_week) B.pre
  have hown : s.vm.findClass RX3 = some m.cls := findClass_of_methodNamed B.named
  have hlocks := B.notSynchronized
  subst hsz
  have hD := hD0.self (sz := s.heap.size)
  generalize hAe : va_A (cw cI cZ a σ) s.heap.size = A at hD hz ⊢
  have hA : ∀ q : Nat, s.heap.size ≤ q → A q := fun q h => by rw [← hAe]; exact Or.inr h
  clear hAe hD0
  obtain ⟨H, hHe⟩ : ∃ z, z = s.heap := ⟨_, rfl⟩
  obtain ⟨locs, hLe⟩ : ∃ z : List Loc, z = [] := ⟨_, rfl⟩
  have hS : va_S A s.heap H locs := by rw [hHe, hLe]; exact va_S.rf
  have hP : va_P (dC, dI) vwCl (cw cI cZ a σ) H := by rw [hHe]; exact hP
  refine W_ofH hHe hLe ?_
  clear hHe hLe
  have hl := lv_entry ([.ref (a 0), .int x1]) (n := 2) (Nat.le_of_ble_eq_true rfl)
  rw [lg_entry_eq]
  generalize (lg_sl ([.ref (a 0), .int x1]) ++ List.replicate (2 - (lg_sl ([.ref (a 0), .int x1])).length) Slot.unset).toArray = ls at hl ⊢
  have hl : lv_has ls 2 [(0, .ref (a 0)), (1, .int x1)] := hl
  obtain ⟨R, hR⟩ : ∃ z, z = sp_week σ x1 := ⟨_, rfl⟩
  have hw := hR
  unfold sp_week at hw
  refine lv_iload_n hx hb dX3_week_0 rfl (lv_at hl 1 rfl) ?_
  refine lv_aload_n hx hb dX3_week_1 rfl (lv_at hl 0 rfl) ?_
  refine va_get (D := (dC, dI)) (ci := 3) (v := .ref (a 19)) (C := RX3) (T := TX3) (N := 6) hx hb hts (iwX3 _) hown hK hP 0 rfl rfl 2 (by decide) (hts _ (kc k_156)) (fun _ h9 => h9) rfl dX3_week_2 ?_
  refine va_get (D := (dC, dI)) (ci := 1) (v := .int (σ 19 5)) (C := RX1) (T := TX1) (N := 7) hx hb hts (iwX1 _) hown hK hP 19 rfl rfl 5 (by decide) (hts _ (kc k_137)) (fun _ h9 => h9) rfl dX3_week_5 ?_
  refine nx_call (vx_runS (As := [.int x1, .int (σ 19 5)]) (rest := []) ⟨hx, hb, hml, hown, hts⟩ (m_X3_needKnown l hl9 zk H.size x1 (σ 19 5)) (cwS 2 hts (gS k_263 k_264 k_20 k_265) rfl rfl rfl (by decide +kernel) ⟨Nat.le_of_ble_eq_true rfl, Nat.le_of_ble_eq_true rfl⟩) (pn_need hz hS hA) rfl rfl hl.1 rfl (lv_room (Nat.le_of_ble_eq_true rfl)) dX3_week_8 ⟨Nat.le_of_ble_eq_true rfl, Nat.le_of_ble_eq_true rfl⟩) hP hD hS hA (fun c_8_1 => ?_) (fun c_8_1 H1 q9 ce hP1 hS1 hc1 hc2 hc3 => vx_out (fun x hx9 => (hEx x hx9).elim) hlocks hc1 hc2 hc3 (fun t ht hvm => ⟨_, hR.symm.trans (hw.trans (if_neg c_8_1)), ⟨rfl, by rw [ht]; exact hP1, va_K.moved hvm hK, hD⟩, hS1.F ht⟩) hS1.2.2 (Nat.le_of_ble_eq_true rfl) (Nat.le_of_ble_eq_true rfl))
  rw [if_pos c_8_1] at hw
  have hn_2 : vp_in x1 6 := okK_pln hiv c_8_1
  refine lv_aload_n hx hb dX3_week_11 rfl (lv_at hl 0 rfl) ?_
  refine va_get (D := (dC, dI)) (ci := 3) (v := .ref (a 19)) (C := RX3) (T := TX3) (N := 6) hx hb hts (iwX3 _) hown hK hP 0 rfl rfl 2 (by decide) (hts _ (kc k_156)) (fun _ h9 => h9) rfl dX3_week_12 ?_
  refine va_get (D := (dC, dI)) (ci := 1) (v := .ref (a 23)) (C := RX1) (T := TX1) (N := 7) hx hb hts (iwX1 _) hown hK hP 19 rfl rfl 3 (by decide) (hts _ (kc k_134)) (fun _ h9 => h9) rfl dX3_week_15 ?_
  refine lv_iload_n hx hb dX3_week_18 rfl (lv_at hl 1 rfl) ?_
  refine va_iald (D := (dC, dI)) (f := σ 23) hx hb hK hP 23 0 rfl rfl (i := x1) hn_2 dX3_week_19 ?_
  refine vx_ret ?_
  refine W.widen (k := 1) (n := 6) (Nat.le_of_ble_eq_true rfl) (Nat.le_of_ble_eq_true rfl) ?_
  exact W.iret (v := σ 23 x1.toNatClampNeg) hx hb hr (fun t ht hW => ⟨⟨σ 23 x1.toNatClampNeg, σ, rfl, hR.symm.trans hw, by rw [ht]; exact hP, va_K.moved hW.alike hK, hD⟩, hS.F ht⟩) hS.2.2 dX3_week_20
