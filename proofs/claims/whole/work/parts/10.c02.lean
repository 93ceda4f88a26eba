set_option maxHeartbeats 4000000 in
set_option maxRecDepth 100000 in
theorem m_X3_oldFrom (l : Launch) (dC : Nat → ClassId) (dI : Nat → Nat → Nat) (cI cZ : ClassId) (a : Nat → Nat) (σ : St) (x1 : Int32) (hiv : IV σ) (h1 : vp_in x1 40) : Met l yX3_oldFrom wsX3_oldFrom ({ frames := 0, cells := 0, slots := 0, locals := 0 }) (pRo dC dI cI cZ a σ [.ref (a 0), .int x1]) (vp_Si (fun r => r = sp_oldFrom σ x1)) 0 0 (fun _ => False) := by
  refine Met.ofW (cc := cX3_oldFrom) (maxL := 3) (ret := (some .int)) (by decide) rfl ?_
  intro p e s m args below meth c s₁ B hml hv
  obtain ⟨rfl, hP, hK⟩ := hv
  have hx := B.exec
  have hb := B.bytes
  have hr := B.returns
  have hts := atoms_spec (ws := wsX3_oldFrom) B.pre
  have hown : s.vm.findClass RX3 = some m.cls := findClass_of_methodNamed B.named
  have hlocks := B.notSynchronized
  have hl := lv_entry ([.ref (a 0), .int x1]) (n := 3) (Nat.le_of_ble_eq_true rfl)
  rw [lg_entry_eq]
  generalize (lg_sl ([.ref (a 0), .int x1]) ++ List.replicate (3 - (lg_sl ([.ref (a 0), .int x1])).length) Slot.unset).toArray = ls at hl ⊢
  have hl : lv_has ls 3 [(0, .ref (a 0)), (1, .int x1)] := hl
  obtain ⟨R, hR⟩ : ∃ z, z = sp_oldFrom σ x1 := ⟨_, rfl⟩
  have hw := hR
  unfold sp_oldFrom at hw
  refine lv_aload_n hx hb dX3_oldFrom_0 rfl (lv_at hl 0 rfl) ?_
  refine va_get (D := (dC, dI)) (ci := 3) (v := .ref (a 1)) (C := RX3) (T := TX3) (N := 6) hx hb hts (iwX3 _) hown hK hP 0 rfl rfl 0 (by decide) (hts _ (kc k_154)) (fun _ h9 => h9) rfl dX3_oldFrom_1 ?_
  refine va_get (D := (dC, dI)) (ci := 0) (v := .ref (a 2)) (C := RX0) (T := TX0) (N := 5) hx hb hts (iwX0 _) hown hK hP 1 rfl rfl 0 (by decide) (hts _ (kc k_49)) (fun _ h9 => h9) rfl dX3_oldFrom_4 ?_
  refine lv_aload_n hx hb dX3_oldFrom_7 rfl (lv_at hl 0 rfl) ?_
  refine va_get (D := (dC, dI)) (ci := 3) (v := .ref (a 7)) (C := RX3) (T := TX3) (N := 6) hx hb hts (iwX3 _) hown hK hP 0 rfl rfl 1 (by decide) (hts _ (kc k_155)) (fun _ h9 => h9) rfl dX3_oldFrom_8 ?_
  refine va_get (D := (dC, dI)) (ci := 2) (v := .ref (a 8)) (C := RX2) (T := TX2) (N := 12) hx hb hts (iwX2 _) hown hK hP 7 rfl rfl 0 (by decide) (hts _ (kc k_77)) (fun _ h9 => h9) rfl dX3_oldFrom_11 ?_
  refine lv_iload_n hx hb dX3_oldFrom_14 rfl (lv_at hl 1 rfl) ?_
  refine va_iald (D := (dC, dI)) (f := σ 8) hx hb hK hP 8 0 rfl rfl (i := x1) h1 dX3_oldFrom_15 ?_
  refine va_iald (D := (dC, dI)) (f := σ 2) hx hb hK hP 2 0 rfl rfl (i := σ 8 x1.toNatClampNeg) (iv_k hiv h1) dX3_oldFrom_16 ?_
  refine lv_istore_n (lv' := [(2, .int (σ 2 (σ 8 x1.toNatClampNeg).toNatClampNeg)), (0, .ref (a 0)), (1, .int x1)]) hx hb dX3_oldFrom_17 rfl hl (by decide) rfl (fun ls hl => ?_)
  refine lv_iload_n hx hb dX3_oldFrom_18 rfl (lv_at hl 0 rfl) ?_
  refine lv_if_ne (tgt := 27) hx hb dX3_oldFrom_19 (by decide) (fun c_19_1 => ?_) (fun c_19_1 => ?_)
  · skip
    rw [if_neg c_19_1] at hw
    refine lv_aload_n hx hb dX3_oldFrom_27 rfl (lv_at hl 1 rfl) ?_
    refine va_get (D := (dC, dI)) (ci := 3) (v := .ref (a 7)) (C := RX3) (T := TX3) (N := 6) hx hb hts (iwX3 _) hown hK hP 0 rfl rfl 1 (by decide) (hts _ (kc k_155)) (fun _ h9 => h9) rfl dX3_oldFrom_28 ?_
    refine va_get (D := (dC, dI)) (ci := 2) (v := .ref (a 12)) (C := RX2) (T := TX2) (N := 12) hx hb hts (iwX2 _) hown hK hP 7 rfl rfl 4 (by decide) (hts _ (kc k_84)) (fun _ h9 => h9) rfl dX3_oldFrom_31 ?_
    refine lv_iload_n hx hb dX3_oldFrom_34 rfl (lv_at hl 2 rfl) ?_
    refine va_iald (D := (dC, dI)) (f := σ 12) hx hb hK hP 12 0 rfl rfl (i := x1) h1 dX3_oldFrom_35 ?_
    refine lv_iload_n hx hb dX3_oldFrom_36 rfl (lv_at hl 0 rfl) ?_
    refine lv_iadd hx hb dX3_oldFrom_37 ?_
    exact W.iret (v := (σ 12 x1.toNatClampNeg) + (σ 2 (σ 8 x1.toNatClampNeg).toNatClampNeg)) hx hb hr (fun t ht hW => ⟨_, rfl, hw.symm.trans hR, ht⟩) (fun _ h => by cases h) dX3_oldFrom_38
  · skip
    rw [if_pos c_19_1] at hw
    refine lv_ldc (own := RX3) (v := 2147483647) hx hb hown (hts _ (kc k_380)) dX3_oldFrom_22 ?_
    refine lv_goto (tgt := 38) hx hb dX3_oldFrom_24 (by decide) ?_
    exact W.iret (v := (2147483647 : Int32)) hx hb hr (fun t ht hW => ⟨_, rfl, hw.symm.trans hR, ht⟩) (fun _ h => by cases h) dX3_oldFrom_38
set_option maxHeartbeats 4000000 in
set_option maxRecDepth 100000 in
theorem m_X3_dueFrom (l : Launch) (dC : Nat → ClassId) (dI : Nat → Nat → Nat) (cI cZ : ClassId) (a : Nat → Nat) (σ : St) (x1 : Int32) (x2 : Int32) (hiv : IV σ) (h1 : vp_in x1 40) (h2 : vp_in x2 3) : Met l yX3_dueFrom wsX3_dueFrom ({ frames := 0, cells := 0, slots := 0, locals := 0 }) (pRo dC dI cI cZ a σ [.ref (a 0), .int x1, .int x2]) (vp_Si (fun r => r = sp_dueFrom σ x1 x2)) 0 0 (fun _ => False) := by
  refine Met.ofW (cc := cX3_dueFrom) (maxL := 7) (ret := (some .int)) (by decide) rfl ?_
  intro p e s m args below meth c s₁ B hml hv
  obtain ⟨rfl, hP, hK⟩ := hv
  have hx := B.exec
  have hb := B.bytes
  have hr := B.returns
  have hts := atoms_spec (ws := wsX3_dueFrom) B.pre
  have hown : s.vm.findClass RX3 = some m.cls := findClass_of_methodNamed B.named
  have hlocks := B.notSynchronized
  have hl := lv_entry ([.ref (a 0), .int x1, .int x2]) (n := 7) (Nat.le_of_ble_eq_true rfl)
  rw [lg_entry_eq]
  generalize (lg_sl ([.ref (a 0), .int x1, .int x2]) ++ List.replicate (7 - (lg_sl ([.ref (a 0), .int x1, .int x2])).length) Slot.unset).toArray = ls at hl ⊢
  have hl : lv_has ls 7 [(0, .ref (a 0)), (1, .int x1), (2, .int x2)] := hl
  obtain ⟨R, hR⟩ : ∃ z, z = sp_dueFrom σ x1 x2 := ⟨_, rfl⟩
  have hw := hR
  unfold sp_dueFrom at hw
  refine lv_aload_n hx hb dX3_dueFrom_0 rfl (lv_at hl 0 rfl) ?_
  refine va_get (D := (dC, dI)) (ci := 3) (v := .ref (a 7)) (C := RX3) (T := TX3) (N := 6) hx hb hts (iwX3 _) hown hK hP 0 rfl rfl 1 (by decide) (hts _ (kc k_155)) (fun _ h9 => h9) rfl dX3_dueFrom_1 ?_
  refine va_get (D := (dC, dI)) (ci := 2) (v := .ref (a 8)) (C := RX2) (T := TX2) (N := 12) hx hb hts (iwX2 _) hown hK hP 7 rfl rfl 0 (by decide) (hts _ (kc k_77)) (fun _ h9 => h9) rfl dX3_dueFrom_4 ?_
  refine lv_iload_n hx hb dX3_dueFrom_7 rfl (lv_at hl 1 rfl) ?_
  refine va_iald (D := (dC, dI)) (f := σ 8) hx hb hK hP 8 0 rfl rfl (i := x1) h1 dX3_dueFrom_8 ?_
  refine lv_iconst (v := 3) hx hb dX3_dueFrom_9 (by decide) ?_
  refine lv_imul hx hb dX3_dueFrom_10 ?_
  refine lv_iload_n hx hb dX3_dueFrom_11 rfl (lv_at hl 2 rfl) ?_
  refine lv_iadd hx hb dX3_dueFrom_12 ?_
  refine lv_istore_n (lv' := [(3, .int (((σ 8 x1.toNatClampNeg) * (3 : Int32)) + x2)), (0, .ref (a 0)), (1, .int x1), (2, .int x2)]) hx hb dX3_dueFrom_13 rfl hl (by decide) rfl (fun ls hl => ?_)
  refine lv_iload_n hx hb dX3_dueFrom_14 rfl (lv_at hl 2 rfl) ?_
  refine lv_iconst (v := 3) hx hb dX3_dueFrom_15 (by decide) ?_
  refine lv_imul hx hb dX3_dueFrom_16 ?_
  refine lv_iload_n hx hb dX3_dueFrom_17 rfl (lv_at hl 3 rfl) ?_
  refine lv_iadd hx hb dX3_dueFrom_18 ?_
  refine lv_istore (lv' := [(4, .int ((x1 * (3 : Int32)) + x2)), (3, .int (((σ 8 x1.toNatClampNeg) * (3 : Int32)) + x2)), (0, .ref (a 0)), (1, .int x1), (2, .int x2)]) hx hb dX3_dueFrom_19 hl (by decide) rfl (fun ls hl => ?_)
  refine lv_aload_n hx hb dX3_dueFrom_21 rfl (lv_at hl 2 rfl) ?_
  refine va_get (D := (dC, dI)) (ci := 3) (v := .ref (a 1)) (C := RX3) (T := TX3) (N := 6) hx hb hts (iwX3 _) hown hK hP 0 rfl rfl 0 (by decide) (hts _ (kc k_154)) (fun _ h9 => h9) rfl dX3_dueFrom_22 ?_
  refine va_get (D := (dC, dI)) (ci := 0) (v := .ref (a 4)) (C := RX0) (T := TX0) (N := 5) hx hb hts (iwX0 _) hown hK hP 1 rfl rfl 2 (by decide) (hts _ (kc k_53)) (fun _ h9 => h9) rfl dX3_dueFrom_25 ?_
  refine lv_iload_n hx hb dX3_dueFrom_28 rfl (lv_at hl 1 rfl) ?_
  refine va_iald (D := (dC, dI)) (f := σ 4) hx hb hK hP 4 0 rfl rfl (i := ((σ 8 x1.toNatClampNeg) * (3 : Int32)) + x2) (in_m3 (n := 5) (iv_k hiv h1) h2 (by decide) (by decide)) dX3_dueFrom_29 ?_
  refine lv_istore (lv' := [(5, .int (σ 4 (((σ 8 x1.toNatClampNeg) * (3 : Int32)) + x2).toNatClampNeg)), (4, .int ((x1 * (3 : Int32)) + x2)), (3, .int (((σ 8 x1.toNatClampNeg) * (3 : Int32)) + x2)), (0, .ref (a 0)), (1, .int x1), (2, .int x2)]) hx hb dX3_dueFrom_30 hl (by decide) rfl (fun ls hl => ?_)
  refine lv_iload hx hb dX3_dueFrom_32 (lv_at hl 0 rfl) ?_
  refine lv_if_le (tgt := 57) hx hb dX3_dueFrom_34 (by decide) (fun c_34_1 => ?_) (fun c_34_1 => ?_)
  · skip
    rw [if_pos c_34_1] at hw
    refine lv_aload_n hx hb dX3_dueFrom_57 rfl (lv_at hl 3 rfl) ?_
    refine va_get (D := (dC, dI)) (ci := 3) (v := .ref (a 1)) (C := RX3) (T := TX3) (N := 6) hx hb hts (iwX3 _) hown hK hP 0 rfl rfl 0 (by decide) (hts _ (kc k_154)) (fun _ h9 => h9) rfl dX3_dueFrom_58 ?_
    refine va_get (D := (dC, dI)) (ci := 0) (v := .ref (a 3)) (C := RX0) (T := TX0) (N := 5) hx hb hts (iwX0 _) hown hK hP 1 rfl rfl 1 (by decide) (hts _ (kc k_51)) (fun _ h9 => h9) rfl dX3_dueFrom_61 ?_
    refine lv_iload_n hx hb dX3_dueFrom_64 rfl (lv_at hl 2 rfl) ?_
    refine va_iald (D := (dC, dI)) (f := σ 3) hx hb hK hP 3 0 rfl rfl (i := ((σ 8 x1.toNatClampNeg) * (3 : Int32)) + x2) (in_m3 (n := 5) (iv_k hiv h1) h2 (by decide) (by decide)) dX3_dueFrom_65 ?_
    refine lv_istore (lv' := [(6, .int (σ 3 (((σ 8 x1.toNatClampNeg) * (3 : Int32)) + x2).toNatClampNeg)), (5, .int (σ 4 (((σ 8 x1.toNatClampNeg) * (3 : Int32)) + x2).toNatClampNeg)), (4, .int ((x1 * (3 : Int32)) + x2)), (3, .int (((σ 8 x1.toNatClampNeg) * (3 : Int32)) + x2)), (0, .ref (a 0)), (1, .int x1), (2, .int x2)]) hx hb dX3_dueFrom_66 hl (by decide) rfl (fun ls hl => ?_)
    refine lv_iload hx hb dX3_dueFrom_68 (lv_at hl 0 rfl) ?_
    refine lv_if_ne (tgt := 78) hx hb dX3_dueFrom_70 (by decide) (fun c_70_2 => ?_) (fun c_70_2 => ?_)
    · skip
      rw [if_neg c_70_2] at hw
      refine lv_aload_n hx hb dX3_dueFrom_78 rfl (lv_at hl 4 rfl) ?_
      refine va_get (D := (dC, dI)) (ci := 3) (v := .ref (a 7)) (C := RX3) (T := TX3) (N := 6) hx hb hts (iwX3 _) hown hK hP 0 rfl rfl 1 (by decide) (hts _ (kc k_155)) (fun _ h9 => h9) rfl dX3_dueFrom_79 ?_
      refine va_get (D := (dC, dI)) (ci := 2) (v := .ref (a 16)) (C := RX2) (T := TX2) (N := 12) hx hb hts (iwX2 _) hown hK hP 7 rfl rfl 8 (by decide) (hts _ (kc k_92)) (fun _ h9 => h9) rfl dX3_dueFrom_82 ?_
      refine lv_iload hx hb dX3_dueFrom_85 (lv_at hl 2 rfl) ?_
      refine va_iald (D := (dC, dI)) (f := σ 16) hx hb hK hP 16 0 rfl rfl (i := (x1 * (3 : Int32)) + x2) (in_m3 (n := 40) h1 h2 (by decide) (by decide)) dX3_dueFrom_87 ?_
      refine lv_iload hx hb dX3_dueFrom_88 (lv_at hl 0 rfl) ?_
      refine lv_iadd hx hb dX3_dueFrom_90 ?_
      exact W.iret (v := (σ 16 ((x1 * (3 : Int32)) + x2).toNatClampNeg) + (σ 3 (((σ 8 x1.toNatClampNeg) * (3 : Int32)) + x2).toNatClampNeg)) hx hb hr (fun t ht hW => ⟨_, rfl, hw.symm.trans hR, ht⟩) (fun _ h => by cases h) dX3_dueFrom_91
    · skip
      rw [if_pos c_70_2] at hw
      refine lv_ldc (own := RX3) (v := 2147483647) hx hb hown (hts _ (kc k_380)) dX3_dueFrom_73 ?_
      refine lv_goto (tgt := 91) hx hb dX3_dueFrom_75 (by decide) ?_
      exact W.iret (v := (2147483647 : Int32)) hx hb hr (fun t ht hW => ⟨_, rfl, hw.symm.trans hR, ht⟩) (fun _ h => by cases h) dX3_dueFrom_91
  · skip
    rw [if_neg c_34_1] at hw
    refine lv_aload_n hx hb dX3_dueFrom_37 rfl (lv_at hl 3 rfl) ?_
    refine va_get (D := (dC, dI)) (ci := 3) (v := .ref (a 7)) (C := RX3) (T := TX3) (N := 6) hx hb hts (iwX3 _) hown hK hP 0 rfl rfl 1 (by decide) (hts _ (kc k_155)) (fun _ h9 => h9) rfl dX3_dueFrom_38 ?_
    refine va_get (D := (dC, dI)) (ci := 2) (v := .ref (a 17)) (C := RX2) (T := TX2) (N := 12) hx hb hts (iwX2 _) hown hK hP 7 rfl rfl 9 (by decide) (hts _ (kc k_94)) (fun _ h9 => h9) rfl dX3_dueFrom_41 ?_
    refine lv_iload hx hb dX3_dueFrom_44 (lv_at hl 1 rfl) ?_
    refine va_iald (D := (dC, dI)) (f := σ 17) hx hb hK hP 17 0 rfl rfl (i := (x1 * (3 : Int32)) + x2) (in_m3 (n := 40) h1 h2 (by decide) (by decide)) dX3_dueFrom_46 ?_
    refine lv_iload hx hb dX3_dueFrom_47 (lv_at hl 0 rfl) ?_
    refine lv_icmp_lt (tgt := 57) hx hb dX3_dueFrom_49 (by decide) (fun c_49_3 => ?_) (fun c_49_3 => ?_)
    · skip
      rw [if_pos c_49_3] at hw
      refine lv_aload_n hx hb dX3_dueFrom_57 rfl (lv_at hl 3 rfl) ?_
      refine va_get (D := (dC, dI)) (ci := 3) (v := .ref (a 1)) (C := RX3) (T := TX3) (N := 6) hx hb hts (iwX3 _) hown hK hP 0 rfl rfl 0 (by decide) (hts _ (kc k_154)) (fun _ h9 => h9) rfl dX3_dueFrom_58 ?_
      refine va_get (D := (dC, dI)) (ci := 0) (v := .ref (a 3)) (C := RX0) (T := TX0) (N := 5) hx hb hts (iwX0 _) hown hK hP 1 rfl rfl 1 (by decide) (hts _ (kc k_51)) (fun _ h9 => h9) rfl dX3_dueFrom_61 ?_
      refine lv_iload_n hx hb dX3_dueFrom_64 rfl (lv_at hl 2 rfl) ?_
      refine va_iald (D := (dC, dI)) (f := σ 3) hx hb hK hP 3 0 rfl rfl (i := ((σ 8 x1.toNatClampNeg) * (3 : Int32)) + x2) (in_m3 (n := 5) (iv_k hiv h1) h2 (by decide) (by decide)) dX3_dueFrom_65 ?_
      refine lv_istore (lv' := [(6, .int (σ 3 (((σ 8 x1.toNatClampNeg) * (3 : Int32)) + x2).toNatClampNeg)), (5, .int (σ 4 (((σ 8 x1.toNatClampNeg) * (3 : Int32)) + x2).toNatClampNeg)), (4, .int ((x1 * (3 : Int32)) + x2)), (3, .int (((σ 8 x1.toNatClampNeg) * (3 : Int32)) + x2)), (0, .ref (a 0)), (1, .int x1), (2, .int x2)]) hx hb dX3_dueFrom_66 hl (by decide) rfl (fun ls hl => ?_)
      refine lv_iload hx hb dX3_dueFrom_68 (lv_at hl 0 rfl) ?_
      refine lv_if_ne (tgt := 78) hx hb dX3_dueFrom_70 (by decide) (fun c_70_4 => ?_) (fun c_70_4 => ?_)
      · skip
        rw [if_neg c_70_4] at hw
        refine lv_aload_n hx hb dX3_dueFrom_78 rfl (lv_at hl 4 rfl) ?_
        refine va_get (D := (dC, dI)) (ci := 3) (v := .ref (a 7)) (C := RX3) (T := TX3) (N := 6) hx hb hts (iwX3 _) hown hK hP 0 rfl rfl 1 (by decide) (hts _ (kc k_155)) (fun _ h9 => h9) rfl dX3_dueFrom_79 ?_
        refine va_get (D := (dC, dI)) (ci := 2) (v := .ref (a 16)) (C := RX2) (T := TX2) (N := 12) hx hb hts (iwX2 _) hown hK hP 7 rfl rfl 8 (by decide) (hts _ (kc k_92)) (fun _ h9 => h9) rfl dX3_dueFrom_82 ?_
        refine lv_iload hx hb dX3_dueFrom_85 (lv_at hl 2 rfl) ?_
        refine va_iald (D := (dC, dI)) (f := σ 16) hx hb hK hP 16 0 rfl rfl (i := (x1 * (3 : Int32)) + x2) (in_m3 (n := 40) h1 h2 (by decide) (by decide)) dX3_dueFrom_87 ?_
        refine lv_iload hx hb dX3_dueFrom_88 (lv_at hl 0 rfl) ?_
        refine lv_iadd hx hb dX3_dueFrom_90 ?_
        exact W.iret (v := (σ 16 ((x1 * (3 : Int32)) + x2).toNatClampNeg) + (σ 3 (((σ 8 x1.toNatClampNeg) * (3 : Int32)) + x2).toNatClampNeg)) hx hb hr (fun t ht hW => ⟨_, rfl, hw.symm.trans hR, ht⟩) (fun _ h => by cases h) dX3_dueFrom_91
      · skip
        rw [if_pos c_70_4] at hw
        refine lv_ldc (own := RX3) (v := 2147483647) hx hb hown (hts _ (kc k_380)) dX3_dueFrom_73 ?_
        refine lv_goto (tgt := 91) hx hb dX3_dueFrom_75 (by decide) ?_
        exact W.iret (v := (2147483647 : Int32)) hx hb hr (fun t ht hW => ⟨_, rfl, hw.symm.trans hR, ht⟩) (fun _ h => by cases h) dX3_dueFrom_91
    · skip
      rw [if_neg c_49_3] at hw
      refine lv_aload_n hx hb dX3_dueFrom_52 rfl (lv_at hl 3 rfl) ?_
      refine va_get (D := (dC, dI)) (ci := 3) (v := .int (σ 0 5)) (C := RX3) (T := TX3) (N := 6) hx hb hts (iwX3 _) hown hK hP 0 rfl rfl 5 (by decide) (hts _ (kc k_159)) (fun _ h9 => h9) rfl dX3_dueFrom_53 ?_
      exact W.iret (v := σ 0 5) hx hb hr (fun t ht hW => ⟨_, rfl, hw.symm.trans hR, ht⟩) (fun _ h => by cases h) dX3_dueFrom_56
set_option maxHeartbeats 4000000 in
set_option maxRecDepth 100000 in
theorem m_X3_someTestDueFrom (l : Launch) (dC : Nat → ClassId) (dI : Nat → Nat → Nat) (cI cZ : ClassId) (a : Nat → Nat) (σ : St) (x1 : Int32) (hiv : IV σ) (h1 : vp_in x1 40) : Met l yX3_someTestDueFrom wsX3_someTestDueFrom ({ frames := 1, cells := 0, slots := 0, locals := 26 }) (pRo dC dI cI cZ a σ [.ref (a 0), .int x1]) (vp_Si (fun r => r = sp_someTestDueFrom σ x1)) 0 0 (fun _ => False) := by
  refine Met.ofW (cc := cX3_someTestDueFrom) (maxL := 4) (ret := (some .int)) (by decide) rfl ?_
  intro p e s m args below meth c s₁ B hml hv
  obtain ⟨rfl, hP, hK⟩ := hv
  have hx := B.exec
  have hb := B.bytes
  have hr := B.returns
  have hts := atoms_spec (ws := wsX3_someTestDueFrom) B.pre
  have hown : s.vm.findClass RX3 = some m.cls := findClass_of_methodNamed B.named
  have hlocks := B.notSynchronized
  have hl := lv_entry ([.ref (a 0), .int x1]) (n := 4) (Nat.le_of_ble_eq_true rfl)
  rw [lg_entry_eq]
  generalize (lg_sl ([.ref (a 0), .int x1]) ++ List.replicate (4 - (lg_sl ([.ref (a 0), .int x1])).length) Slot.unset).toArray = ls at hl ⊢
  have hl : lv_has ls 4 [(0, .ref (a 0)), (1, .int x1)] := hl
  obtain ⟨R, hR⟩ : ∃ z, z = sp_someTestDueFrom σ x1 := ⟨_, rfl⟩
  have hw := hR
  unfold sp_someTestDueFrom at hw
  refine lv_ldc (own := RX3) (v := 2147483647) hx hb hown (hts _ (kc k_380)) dX3_someTestDueFrom_0 ?_
  refine lv_istore_n (lv' := [(2, .int (2147483647 : Int32)), (0, .ref (a 0)), (1, .int x1)]) hx hb dX3_someTestDueFrom_2 rfl hl (by decide) rfl (fun ls hl => ?_)
  refine lv_iconst (v := 0) hx hb dX3_someTestDueFrom_3 (by decide) ?_
  refine lv_istore_n (lv' := [(3, .int (0 : Int32)), (2, .int (2147483647 : Int32)), (0, .ref (a 0)), (1, .int x1)]) hx hb dX3_someTestDueFrom_4 rfl hl (by decide) rfl (fun ls hl => ?_)
  have loop : ∀ (n k : Nat) (x2 : Int32) (ls : Array Slot), k + n = 3 → lv_has ls 4 [(0, .ref (a 0)), (1, .int x1), (2, .int x2), (3, .int (nI k))] → R = sp_someTestDueFrom_5 σ x1 n k x2 → W p l e (headSpec wsX3_someTestDueFrom ({ frames := 1, cells := 0, slots := 0, locals := 26 })).room s m [.ref (a 0), .int x1].toArray below meth c s.heap [] 0 0 (MQ below (vp_Si (fun r => r = sp_someTestDueFrom σ x1)) [.ref (a 0), .int x1].toArray s 0 0 (fun _ => False)) (F0 m 5 ls []) := by
    intro n
    induction n with
    | zero =>
      intro k x2 ls hkn hl hw
      rw [sp_someTestDueFrom_5_0] at hw
      refine lv_iload_n hx hb dX3_someTestDueFrom_5 rfl (lv_at hl 3 rfl) ?_
      refine lv_iconst (v := 3) hx hb dX3_someTestDueFrom_6 (by decide) ?_
      refine lv_icmp_ge (tgt := 27) hx hb dX3_someTestDueFrom_7 (by decide) (fun c_7_1 => ?_) (fun c_7_1 => ?_)
      · skip
        refine lv_iload_n hx hb dX3_someTestDueFrom_27 rfl (lv_at hl 2 rfl) ?_
        exact W.iret (v := x2) hx hb hr (fun t ht hW => ⟨_, rfl, hw.symm.trans hR, ht⟩) (fun _ h => by cases h) dX3_someTestDueFrom_28
      · skip
        exact absurd (lpE ht_3 hkn (by omega)) c_7_1
    | succ n ih =>
      intro k x2 ls hkn hl hw
      rw [sp_someTestDueFrom_5_s] at hw
      have hkf : vp_in (nI k) 3 := vp_in_nI (by omega) (by decide)
      refine lv_iload_n hx hb dX3_someTestDueFrom_5 rfl (lv_at hl 3 rfl) ?_
      refine lv_iconst (v := 3) hx hb dX3_someTestDueFrom_6 (by decide) ?_
      refine lv_icmp_ge (tgt := 27) hx hb dX3_someTestDueFrom_7 (by decide) (fun c_7_2 => ?_) (fun c_7_2 => ?_)
      · skip
        exact absurd c_7_2 (lpB ht_3 hkn (by omega))
      · skip
        refine lv_iload_n hx hb dX3_someTestDueFrom_10 rfl (lv_at hl 2 rfl) ?_
        refine lv_aload_n hx hb dX3_someTestDueFrom_11 rfl (lv_at hl 0 rfl) ?_
        refine lv_iload_n hx hb dX3_someTestDueFrom_12 rfl (lv_at hl 1 rfl) ?_
        refine lv_iload_n hx hb dX3_someTestDueFrom_13 rfl (lv_at hl 3 rfl) ?_
        refine vp_callSi (W.runV (As := [.int x1, .int (nI k)]) (rest := [.int x2]) ⟨hx, hb, hml, hown, hts⟩ (m_X3_dueFrom l dC dI cI cZ a σ x1 (nI k) hiv h1 hkf) (cwV 2 hts (gV k_385 k_387 k_4 k_20 k_388) rfl rfl rfl (by decide +kernel) ⟨Nat.le_of_ble_eq_true rfl, Nat.le_of_ble_eq_true rfl⟩) (pv_ro (q := (RX3, TX3, 6)) (q0 := 0) (ci := 3) hK hP rfl rfl) rfl rfl hl.1 rfl (lv_room (Nat.le_of_ble_eq_true rfl)) dX3_someTestDueFrom_14 ⟨Nat.le_of_ble_eq_true rfl, Nat.le_of_ble_eq_true rfl⟩) (fun r hrr => ?_)
        subst hrr
        refine va_mmin hx hb (hml.trans hl.1.symm) hown (hts _ (kc k_389)) (hts _ (kc k_390)) (hts _ (kc k_32)) (hts _ (kc k_391)) (Nat.le_of_ble_eq_true rfl) (Nat.le_of_ble_eq_true rfl) (Nat.le_of_ble_eq_true rfl) (Nat.le_of_ble_eq_true rfl) dX3_someTestDueFrom_17 ?_
        refine lv_istore_n (lv' := [(2, .int (if (sp_dueFrom σ x1 (nI k)) < x2 then (sp_dueFrom σ x1 (nI k)) else x2)), (0, .ref (a 0)), (1, .int x1), (3, .int (nI k))]) hx hb dX3_someTestDueFrom_20 rfl hl (by decide) rfl (fun ls hl => ?_)
        refine lv_iinc (v := (nI (k + 1))) (lv' := [(3, .int (nI (k + 1))), (2, .int (if (sp_dueFrom σ x1 (nI k)) < x2 then (sp_dueFrom σ x1 (nI k)) else x2)), (0, .ref (a 0)), (1, .int x1)]) hx hb dX3_someTestDueFrom_21 hl (k := 3) rfl (nI_1 k) (by decide) rfl (fun ls hl => ?_)
        refine lv_goto (tgt := 5) hx hb dX3_someTestDueFrom_24 (by decide) ?_
        exact ih (k + 1) (if (sp_dueFrom σ x1 (nI k)) < x2 then (sp_dueFrom σ x1 (nI k)) else x2) ls (by omega) (lv_sub hl [2, 3, 1, 0] rfl) hw
  exact loop 3 0 (2147483647 : Int32) ls (Nat.zero_add _) (lv_sub hl [2, 3, 1, 0] rfl) hw
set_option maxHeartbeats 4000000 in
set_option maxRecDepth 100000 in
theorem m_X3_reasonBarred (l : Launch) (dC : Nat → ClassId) (dI : Nat → Nat → Nat) (cI cZ : ClassId) (a : Nat → Nat) (σ : St) (x1 : Int32) (hiv : IV σ) (h1 : vp_in x1 40) : Met l yX3_reasonBarred wsX3_reasonBarred ({ frames := 2, cells := 0, slots := 0, locals := 49 }) (pRo dC dI cI cZ a σ [.ref (a 0), .int x1]) (vp_Si (fun r => r = sp_reasonBarred σ x1)) 0 0 (fun _ => False) := by
  refine Met.ofW (cc := cX3_reasonBarred) (maxL := 2) (ret := (some .int)) (by decide) rfl ?_
  intro p e s m args below meth c s₁ B hml hv
  obtain ⟨rfl, hP, hK⟩ := hv
  have hx := B.exec
  have hb := B.bytes
  have hr := B.returns
  have hts := atoms_spec (ws := wsX3_reasonBarred) B.pre
  have hown : s.vm.findClass RX3 = some m.cls := findClass_of_methodNamed B.named
  have hlocks := B.notSynchronized
  have hl := lv_entry ([.ref (a 0), .int x1]) (n := 2) (Nat.le_of_ble_eq_true rfl)
  rw [lg_entry_eq]
  generalize (lg_sl ([.ref (a 0), .int x1]) ++ List.replicate (2 - (lg_sl ([.ref (a 0), .int x1])).length) Slot.unset).toArray = ls at hl ⊢
  have hl : lv_has ls 2 [(0, .ref (a 0)), (1, .int x1)] := hl
  obtain ⟨R, hR⟩ : ∃ z, z = sp_reasonBarred σ x1 := ⟨_, rfl⟩
  have hw := hR
  unfold sp_reasonBarred at hw
  refine lv_aload_n hx hb dX3_reasonBarred_0 rfl (lv_at hl 0 rfl) ?_
  refine va_get (D := (dC, dI)) (ci := 3) (v := .ref (a 7)) (C := RX3) (T := TX3) (N := 6) hx hb hts (iwX3 _) hown hK hP 0 rfl rfl 1 (by decide) (hts _ (kc k_155)) (fun _ h9 => h9) rfl dX3_reasonBarred_1 ?_
  refine lv_iload_n hx hb dX3_reasonBarred_4 rfl (lv_at hl 1 rfl) ?_
  refine vp_callSi (W.runV (As := [.int x1]) (rest := []) ⟨hx, hb, hml, hown, hts⟩ (m_X2_isScrapped l dC dI cI cZ a σ x1 h1) (cwV 1 hts (gV k_372 k_373 k_374 k_22 k_375) rfl rfl rfl (by decide +kernel) ⟨Nat.le_of_ble_eq_true rfl, Nat.le_of_ble_eq_true rfl⟩) (pv_ro (q := (RX2, TX2, 12)) (q0 := 7) (ci := 2) hK hP rfl rfl) rfl rfl hl.1 rfl (lv_room (Nat.le_of_ble_eq_true rfl)) dX3_reasonBarred_5 ⟨Nat.le_of_ble_eq_true rfl, Nat.le_of_ble_eq_true rfl⟩) (fun r hrr => ?_)
  subst hrr
  refine lv_if_eq (tgt := 13) hx hb dX3_reasonBarred_8 (by decide) (fun c_8_1 => ?_) (fun c_8_1 => ?_)
  · skip
    rw [if_pos c_8_1] at hw
    refine lv_aload_n hx hb dX3_reasonBarred_13 rfl (lv_at hl 0 rfl) ?_
    refine va_get (D := (dC, dI)) (ci := 3) (v := .ref (a 25)) (C := RX3) (T := TX3) (N := 6) hx hb hts (iwX3 _) hown hK hP 0 rfl rfl 3 (by decide) (hts _ (kc k_157)) (fun _ h9 => h9) rfl dX3_reasonBarred_14 ?_
    refine lv_aload_n hx hb dX3_reasonBarred_17 rfl (lv_at hl 0 rfl) ?_
    refine va_get (D := (dC, dI)) (ci := 3) (v := .ref (a 7)) (C := RX3) (T := TX3) (N := 6) hx hb hts (iwX3 _) hown hK hP 0 rfl rfl 1 (by decide) (hts _ (kc k_155)) (fun _ h9 => h9) rfl dX3_reasonBarred_18 ?_
    refine va_get (D := (dC, dI)) (ci := 2) (v := .ref (a 10)) (C := RX2) (T := TX2) (N := 12) hx hb hts (iwX2 _) hown hK hP 7 rfl rfl 2 (by decide) (hts _ (kc k_80)) (fun _ h9 => h9) rfl dX3_reasonBarred_21 ?_
    refine lv_iload_n hx hb dX3_reasonBarred_24 rfl (lv_at hl 1 rfl) ?_
    refine va_iald (D := (dC, dI)) (f := σ 10) hx hb hK hP 10 0 rfl rfl (i := x1) h1 dX3_reasonBarred_25 ?_
    refine va_zald (D := (dC, dI)) (f := σ 25) hx hb hK hP 25 1 rfl rfl (i := σ 10 x1.toNatClampNeg) (iv_b hiv h1) dX3_reasonBarred_26 ?_
    refine lv_if_eq (tgt := 32) hx hb dX3_reasonBarred_27 (by decide) (fun c_27_2 => ?_) (fun c_27_2 => ?_)
    · skip
      rw [if_pos c_27_2] at hw
      refine lv_aload_n hx hb dX3_reasonBarred_32 rfl (lv_at hl 0 rfl) ?_
      refine lv_iload_n hx hb dX3_reasonBarred_33 rfl (lv_at hl 1 rfl) ?_
      refine vp_callSi (W.runV (As := [.int x1]) (rest := []) ⟨hx, hb, hml, hown, hts⟩ (m_X3_oldFrom l dC dI cI cZ a σ x1 hiv h1) (cwV 1 hts (gV k_376 k_378 k_2 k_20 k_379) rfl rfl rfl (by decide +kernel) ⟨Nat.le_of_ble_eq_true rfl, Nat.le_of_ble_eq_true rfl⟩) (pv_ro (q := (RX3, TX3, 6)) (q0 := 0) (ci := 3) hK hP rfl rfl) rfl rfl hl.1 rfl (lv_room (Nat.le_of_ble_eq_true rfl)) dX3_reasonBarred_34 ⟨Nat.le_of_ble_eq_true rfl, Nat.le_of_ble_eq_true rfl⟩) (fun r hrr => ?_)
      subst hrr
      refine lv_aload_n hx hb dX3_reasonBarred_37 rfl (lv_at hl 0 rfl) ?_
      refine va_get (D := (dC, dI)) (ci := 3) (v := .int (σ 0 5)) (C := RX3) (T := TX3) (N := 6) hx hb hts (iwX3 _) hown hK hP 0 rfl rfl 5 (by decide) (hts _ (kc k_159)) (fun _ h9 => h9) rfl dX3_reasonBarred_38 ?_
      refine lv_icmp_gt (tgt := 46) hx hb dX3_reasonBarred_41 (by decide) (fun c_41_3 => ?_) (fun c_41_3 => ?_)
      · skip
        rw [if_pos c_41_3] at hw
        refine lv_aload_n hx hb dX3_reasonBarred_46 rfl (lv_at hl 0 rfl) ?_
        refine lv_iload_n hx hb dX3_reasonBarred_47 rfl (lv_at hl 1 rfl) ?_
        refine vp_callSi (W.runV (As := [.int x1]) (rest := []) ⟨hx, hb, hml, hown, hts⟩ (m_X3_someTestDueFrom l dC dI cI cZ a σ x1 hiv h1) (cwV 1 hts (gV k_381 k_383 k_3 k_20 k_384) rfl rfl rfl (by decide +kernel) ⟨Nat.le_of_ble_eq_true rfl, Nat.le_of_ble_eq_true rfl⟩) (pv_ro (q := (RX3, TX3, 6)) (q0 := 0) (ci := 3) hK hP rfl rfl) rfl rfl hl.1 rfl (lv_room (Nat.le_of_ble_eq_true rfl)) dX3_reasonBarred_48 ⟨Nat.le_of_ble_eq_true rfl, Nat.le_of_ble_eq_true rfl⟩) (fun r hrr => ?_)
        subst hrr
        refine lv_aload_n hx hb dX3_reasonBarred_51 rfl (lv_at hl 0 rfl) ?_
        refine va_get (D := (dC, dI)) (ci := 3) (v := .int (σ 0 5)) (C := RX3) (T := TX3) (N := 6) hx hb hts (iwX3 _) hown hK hP 0 rfl rfl 5 (by decide) (hts _ (kc k_159)) (fun _ h9 => h9) rfl dX3_reasonBarred_52 ?_
        refine lv_icmp_gt (tgt := 60) hx hb dX3_reasonBarred_55 (by decide) (fun c_55_4 => ?_) (fun c_55_4 => ?_)
        · skip
          rw [if_pos c_55_4] at hw
          refine lv_aload_n hx hb dX3_reasonBarred_60 rfl (lv_at hl 0 rfl) ?_
          refine va_get (D := (dC, dI)) (ci := 3) (v := .ref (a 7)) (C := RX3) (T := TX3) (N := 6) hx hb hts (iwX3 _) hown hK hP 0 rfl rfl 1 (by decide) (hts _ (kc k_155)) (fun _ h9 => h9) rfl dX3_reasonBarred_61 ?_
          refine lv_iload_n hx hb dX3_reasonBarred_64 rfl (lv_at hl 1 rfl) ?_
          refine vp_callSi (W.runV (As := [.int x1]) (rest := []) ⟨hx, hb, hml, hown, hts⟩ (m_X2_conditionOf l dC dI cI cZ a σ x1 h1) (cwV 1 hts (gV k_392 k_393 k_394 k_22 k_395) rfl rfl rfl (by decide +kernel) ⟨Nat.le_of_ble_eq_true rfl, Nat.le_of_ble_eq_true rfl⟩) (pv_ro (q := (RX2, TX2, 12)) (q0 := 7) (ci := 2) hK hP rfl rfl) rfl rfl hl.1 rfl (lv_room (Nat.le_of_ble_eq_true rfl)) dX3_reasonBarred_65 ⟨Nat.le_of_ble_eq_true rfl, Nat.le_of_ble_eq_true rfl⟩) (fun r hrr => ?_)
          subst hrr
          refine lv_iconst (v := 1) hx hb dX3_reasonBarred_68 (by decide) ?_
          refine lv_icmp_ne (tgt := 74) hx hb dX3_reasonBarred_69 (by decide) (fun c_69_5 => ?_) (fun c_69_5 => ?_)
          · skip
            rw [if_neg c_69_5] at hw
            refine lv_aload_n hx hb dX3_reasonBarred_74 rfl (lv_at hl 0 rfl) ?_
            refine va_get (D := (dC, dI)) (ci := 3) (v := .ref (a 7)) (C := RX3) (T := TX3) (N := 6) hx hb hts (iwX3 _) hown hK hP 0 rfl rfl 1 (by decide) (hts _ (kc k_155)) (fun _ h9 => h9) rfl dX3_reasonBarred_75 ?_
            refine va_get (D := (dC, dI)) (ci := 2) (v := .ref (a 15)) (C := RX2) (T := TX2) (N := 12) hx hb hts (iwX2 _) hown hK hP 7 rfl rfl 7 (by decide) (hts _ (kc k_90)) (fun _ h9 => h9) rfl dX3_reasonBarred_78 ?_
            refine lv_iload_n hx hb dX3_reasonBarred_81 rfl (lv_at hl 1 rfl) ?_
            refine va_zald (D := (dC, dI)) (f := σ 15) hx hb hK hP 15 1 rfl rfl (i := x1) h1 dX3_reasonBarred_82 ?_
            refine lv_if_eq (tgt := 91) hx hb dX3_reasonBarred_83 (by decide) (fun c_83_6 => ?_) (fun c_83_6 => ?_)
            · skip
              rw [if_pos c_83_6] at hw
              refine lv_iconst (v := 0) hx hb dX3_reasonBarred_91 (by decide) ?_
              exact W.iret (v := (0 : Int32)) hx hb hr (fun t ht hW => ⟨_, rfl, hw.symm.trans hR, ht⟩) (fun _ h => by cases h) dX3_reasonBarred_92
            · skip
              rw [if_neg c_83_6] at hw
              refine lv_bipush (v := 6) hx hb dX3_reasonBarred_86 (by decide) ?_
              refine lv_goto (tgt := 92) hx hb dX3_reasonBarred_88 (by decide) ?_
              exact W.iret (v := (6 : Int32)) hx hb hr (fun t ht hW => ⟨_, rfl, hw.symm.trans hR, ht⟩) (fun _ h => by cases h) dX3_reasonBarred_92
          · skip
            rw [if_pos c_69_5] at hw
            refine lv_iconst (v := 5) hx hb dX3_reasonBarred_72 (by decide) ?_
            exact W.iret (v := (5 : Int32)) hx hb hr (fun t ht hW => ⟨_, rfl, hw.symm.trans hR, ht⟩) (fun _ h => by cases h) dX3_reasonBarred_73
        · skip
          rw [if_neg c_55_4] at hw
          refine lv_iconst (v := 4) hx hb dX3_reasonBarred_58 (by decide) ?_
          exact W.iret (v := (4 : Int32)) hx hb hr (fun t ht hW => ⟨_, rfl, hw.symm.trans hR, ht⟩) (fun _ h => by cases h) dX3_reasonBarred_59
      · skip
        rw [if_neg c_41_3] at hw
        refine lv_iconst (v := 3) hx hb dX3_reasonBarred_44 (by decide) ?_
        exact W.iret (v := (3 : Int32)) hx hb hr (fun t ht hW => ⟨_, rfl, hw.symm.trans hR, ht⟩) (fun _ h => by cases h) dX3_reasonBarred_45
    · skip
      rw [if_neg c_27_2] at hw
      refine lv_iconst (v := 2) hx hb dX3_reasonBarred_30 (by decide) ?_
      exact W.iret (v := (2 : Int32)) hx hb hr (fun t ht hW => ⟨_, rfl, hw.symm.trans hR, ht⟩) (fun _ h => by cases h) dX3_reasonBarred_31
  · skip
    rw [if_neg c_8_1] at hw
    refine lv_iconst (v := 1) hx hb dX3_reasonBarred_11 (by decide) ?_
    exact W.iret (v := (1 : Int32)) hx hb hr (fun t ht hW => ⟨_, rfl, hw.symm.trans hR, ht⟩) (fun _ h => by cases h) dX3_reasonBarred_12
set_option maxHeartbeats 4000000 in
set_option maxRecDepth 100000 in
theorem m_X3_endOf (l : Launch) (dC : Nat → ClassId) (dI : Nat → Nat → Nat) (cI cZ : ClassId) (a : Nat → Nat) (σ : St) (x1 : Int32) (hiv : IV σ) (h1 : vp_in x1 40) : Met l yX3_endOf wsX3_endOf ({ frames := 2, cells := 0, slots := 0, locals := 49 }) (pRo dC dI cI cZ a σ [.ref (a 0), .int x1]) (vp_Si (fun r => r = sp_endOf σ x1)) 0 0 (fun _ => False) := by
  refine Met.ofW (cc := cX3_endOf) (maxL := 3) (ret := (some .int)) (by decide) rfl ?_
  intro p e s m args below meth c s₁ B hml hv
  obtain ⟨rfl, hP, hK⟩ := hv
  have hx := B.exec
  have hb := B.bytes
  have hr := B.returns
  have hts := atoms_spec (ws := wsX3_endOf) B.pre
  have hown : s.vm.findClass RX3 = some m.cls := findClass_of_methodNamed B.named
  have hlocks := B.notSynchronized
  have hl := lv_entry ([.ref (a 0), .int x1]) (n := 3) (Nat.le_of_ble_eq_true rfl)
  rw [lg_entry_eq]
  generalize (lg_sl ([.ref (a 0), .int x1]) ++ List.replicate (3 - (lg_sl ([.ref (a 0), .int x1])).length) Slot.unset).toArray = ls at hl ⊢
  have hl : lv_has ls 3 [(0, .ref (a 0)), (1, .int x1)] := hl
  obtain ⟨R, hR⟩ : ∃ z, z = sp_endOf σ x1 := ⟨_, rfl⟩
  have hw := hR
  unfold sp_endOf at hw
  refine lv_aload_n hx hb dX3_endOf_0 rfl (lv_at hl 0 rfl) ?_
  refine va_get (D := (dC, dI)) (ci := 3) (v := .ref (a 7)) (C := RX3) (T := TX3) (N := 6) hx hb hts (iwX3 _) hown hK hP 0 rfl rfl 1 (by decide) (hts _ (kc k_155)) (fun _ h9 => h9) rfl dX3_endOf_1 ?_
  refine lv_iload_n hx hb dX3_endOf_4 rfl (lv_at hl 1 rfl) ?_
  refine vp_callSi (W.runV (As := [.int x1]) (rest := []) ⟨hx, hb, hml, hown, hts⟩ (m_X2_isScrapped l dC dI cI cZ a σ x1 h1) (cwV 1 hts (gV k_372 k_373 k_374 k_22 k_375) rfl rfl rfl (by decide +kernel) ⟨Nat.le_of_ble_eq_true rfl, Nat.le_of_ble_eq_true rfl⟩) (pv_ro (q := (RX2, TX2, 12)) (q0 := 7) (ci := 2) hK hP rfl rfl) rfl rfl hl.1 rfl (lv_room (Nat.le_of_ble_eq_true rfl)) dX3_endOf_5 ⟨Nat.le_of_ble_eq_true rfl, Nat.le_of_ble_eq_true rfl⟩) (fun r hrr => ?_)
  subst hrr
  refine lv_if_eq (tgt := 13) hx hb dX3_endOf_8 (by decide) (fun c_8_1 => ?_) (fun c_8_1 => ?_)
  · skip
    rw [if_pos c_8_1] at hw
    refine lv_aload_n hx hb dX3_endOf_13 rfl (lv_at hl 0 rfl) ?_
    refine lv_iload_n hx hb dX3_endOf_14 rfl (lv_at hl 1 rfl) ?_
    refine vp_callSi (W.runV (As := [.int x1]) (rest := []) ⟨hx, hb, hml, hown, hts⟩ (m_X3_oldFrom l dC dI cI cZ a σ x1 hiv h1) (cwV 1 hts (gV k_376 k_378 k_2 k_20 k_379) rfl rfl rfl (by decide +kernel) ⟨Nat.le_of_ble_eq_true rfl, Nat.le_of_ble_eq_true rfl⟩) (pv_ro (q := (RX3, TX3, 6)) (q0 := 0) (ci := 3) hK hP rfl rfl) rfl rfl hl.1 rfl (lv_room (Nat.le_of_ble_eq_true rfl)) dX3_endOf_15 ⟨Nat.le_of_ble_eq_true rfl, Nat.le_of_ble_eq_true rfl⟩) (fun r hrr => ?_)
    subst hrr
    refine lv_aload_n hx hb dX3_endOf_18 rfl (lv_at hl 0 rfl) ?_
    refine lv_iload_n hx hb dX3_endOf_19 rfl (lv_at hl 1 rfl) ?_
    refine vp_callSi (W.runV (As := [.int x1]) (rest := [.int (sp_oldFrom σ x1)]) ⟨hx, hb, hml, hown, hts⟩ (m_X3_someTestDueFrom l dC dI cI cZ a σ x1 hiv h1) (cwV 1 hts (gV k_381 k_383 k_3 k_20 k_384) rfl rfl rfl (by decide +kernel) ⟨Nat.le_of_ble_eq_true rfl, Nat.le_of_ble_eq_true rfl⟩) (pv_ro (q := (RX3, TX3, 6)) (q0 := 0) (ci := 3) hK hP rfl rfl) rfl rfl hl.1 rfl (lv_room (Nat.le_of_ble_eq_true rfl)) dX3_endOf_20 ⟨Nat.le_of_ble_eq_true rfl, Nat.le_of_ble_eq_true rfl⟩) (fun r hrr => ?_)
    subst hrr
    refine va_mmin hx hb (hml.trans hl.1.symm) hown (hts _ (kc k_389)) (hts _ (kc k_390)) (hts _ (kc k_32)) (hts _ (kc k_391)) (Nat.le_of_ble_eq_true rfl) (Nat.le_of_ble_eq_true rfl) (Nat.le_of_ble_eq_true rfl) (Nat.le_of_ble_eq_true rfl) dX3_endOf_23 ?_
    refine lv_istore_n (lv' := [(2, .int (if (sp_someTestDueFrom σ x1) < (sp_oldFrom σ x1) then (sp_someTestDueFrom σ x1) else (sp_oldFrom σ x1))), (0, .ref (a 0)), (1, .int x1)]) hx hb dX3_endOf_26 rfl hl (by decide) rfl (fun ls hl => ?_)
    refine lv_iload_n hx hb dX3_endOf_27 rfl (lv_at hl 0 rfl) ?_
    refine lv_ldc (own := RX3) (v := 2147483647) hx hb hown (hts _ (kc k_380)) dX3_endOf_28 ?_
    refine lv_icmp_ne (tgt := 37) hx hb dX3_endOf_30 (by decide) (fun c_30_2 => ?_) (fun c_30_2 => ?_)
    · skip
      rw [if_neg c_30_2] at hw
      refine lv_iload_n hx hb dX3_endOf_37 rfl (lv_at hl 0 rfl) ?_
      refine lv_aload_n hx hb dX3_endOf_38 rfl (lv_at hl 1 rfl) ?_
      refine va_get (D := (dC, dI)) (ci := 3) (v := .int (σ 0 5)) (C := RX3) (T := TX3) (N := 6) hx hb hts (iwX3 _) hown hK hP 0 rfl rfl 5 (by decide) (hts _ (kc k_159)) (fun _ h9 => h9) rfl dX3_endOf_39 ?_
      refine va_mmax hx hb (hml.trans hl.1.symm) hown (hts _ (kc k_477)) (hts _ (kc k_397)) (hts _ (kc k_32)) (hts _ (kc k_398)) (Nat.le_of_ble_eq_true rfl) (Nat.le_of_ble_eq_true rfl) (Nat.le_of_ble_eq_true rfl) (Nat.le_of_ble_eq_true rfl) dX3_endOf_42 ?_
      exact W.iret (v := (if (if (sp_someTestDueFrom σ x1) < (sp_oldFrom σ x1) then (sp_someTestDueFrom σ x1) else (sp_oldFrom σ x1)) < (σ 0 5) then (σ 0 5) else (if (sp_someTestDueFrom σ x1) < (sp_oldFrom σ x1) then (sp_someTestDueFrom σ x1) else (sp_oldFrom σ x1)))) hx hb hr (fun t ht hW => ⟨_, rfl, hw.symm.trans hR, ht⟩) (fun _ h => by cases h) dX3_endOf_45
    · skip
      rw [if_pos c_30_2] at hw
      refine lv_iconst (v := -1) hx hb dX3_endOf_33 (by decide) ?_
      refine lv_goto (tgt := 45) hx hb dX3_endOf_34 (by decide) ?_
      exact W.iret (v := (-1 : Int32)) hx hb hr (fun t ht hW => ⟨_, rfl, hw.symm.trans hR, ht⟩) (fun _ h => by cases h) dX3_endOf_45
  · skip
    rw [if_neg c_8_1] at hw
    refine lv_iconst (v := -1) hx hb dX3_endOf_11 (by decide) ?_
    exact W.iret (v := (-1 : Int32)) hx hb hr (fun t ht hW => ⟨_, rfl, hw.symm.trans hR, ht⟩) (fun _ h => by cases h) dX3_endOf_12
set_option maxHeartbeats 4000000 in
set_option maxRecDepth 100000 in
theorem m_X3_countEndingBefore (l : Launch) (dC : Nat → ClassId) (dI : Nat → Nat → Nat) (cI cZ : ClassId) (a : Nat → Nat) (σ : St) (x1 : Int32) (hiv : IV σ) (h1 : vp_in x1 40) : Met l yX3_countEndingBefore wsX3_countEndingBefore ({ frames := 0, cells := 0, slots := 0, locals := 0 }) (pRo dC dI cI cZ a σ [.ref (a 0), .int x1]) (vp_Si (fun r => r = sp_countEndingBefore σ x1)) 0 0 (fun _ => False) := by
  refine Met.ofW (cc := cX3_countEndingBefore) (maxL := 6) (ret := (some .int)) (by decide) rfl ?_
  intro p e s m args below meth c s₁ B hml hv
  obtain ⟨rfl, hP, hK⟩ := hv
  have hx := B.exec
  have hb := B.bytes
  have hr := B.returns
  have hts := atoms_spec (ws := wsX3_countEndingBefore) B.pre
  have hown : s.vm.findClass RX3 = some m.cls := findClass_of_methodNamed B.named
  have hlocks := B.notSynchronized
  have hl := lv_entry ([.ref (a 0), .int x1]) (n := 6) (Nat.le_of_ble_eq_true rfl)
  rw [lg_entry_eq]
  generalize (lg_sl ([.ref (a 0), .int x1]) ++ List.replicate (6 - (lg_sl ([.ref (a 0), .int x1])).length) Slot.unset).toArray = ls at hl ⊢
  have hl : lv_has ls 6 [(0, .ref (a 0)), (1, .int x1)] := hl
  obtain ⟨R, hR⟩ : ∃ z, z = sp_countEndingBefore σ x1 := ⟨_, rfl⟩
  have hw := hR
  unfold sp_countEndingBefore at hw
  have hle := iv_le hiv
  refine lv_iconst (v := 0) hx hb dX3_countEndingBefore_0 (by decide) ?_
  refine lv_istore_n (lv' := [(2, .int (0 : Int32)), (0, .ref (a 0)), (1, .int x1)]) hx hb dX3_countEndingBefore_1 rfl hl (by decide) rfl (fun ls hl => ?_)
  refine lv_iconst (v := 0) hx hb dX3_countEndingBefore_2 (by decide) ?_
  refine lv_istore_n (lv' := [(3, .int (0 : Int32)), (2, .int (0 : Int32)), (0, .ref (a 0)), (1, .int x1)]) hx hb dX3_countEndingBefore_3 rfl hl (by decide) rfl (fun ls hl => ?_)
  have loop : ∀ (n k : Nat) (x2 : Int32) (ls : Array Slot), k + n = cntN σ → lv_has ls 6 [(0, .ref (a 0)), (1, .int x1), (2, .int x2), (3, .int (nI k))] → R = sp_countEndingBefore_4 σ x1 n k x2 → W p l e (headSpec wsX3_countEndingBefore ({ frames := 0, cells := 0, slots := 0, locals := 0 })).room s m [.ref (a 0), .int x1].toArray below meth c s.heap [] 0 0 (MQ below (vp_Si (fun r => r = sp_countEndingBefore σ x1)) [.ref (a 0), .int x1].toArray s 0 0 (fun _ => False)) (F0 m 4 ls []) := by
    intro n
    induction n with
    | zero =>
      intro k x2 ls hkn hl hw
      rw [sp_countEndingBefore_4_0] at hw
      refine lv_iload_n hx hb dX3_countEndingBefore_4 rfl (lv_at hl 3 rfl) ?_
      refine lv_aload_n hx hb dX3_countEndingBefore_5 rfl (lv_at hl 0 rfl) ?_
      refine va_get (D := (dC, dI)) (ci := 3) (v := .ref (a 7)) (C := RX3) (T := TX3) (N := 6) hx hb hts (iwX3 _) hown hK hP 0 rfl rfl 1 (by decide) (hts _ (kc k_155)) (fun _ h9 => h9) rfl dX3_countEndingBefore_6 ?_
      refine va_get (D := (dC, dI)) (ci := 2) (v := .int (σ 7 11)) (C := RX2) (T := TX2) (N := 12) hx hb hts (iwX2 _) hown hK hP 7 rfl rfl 11 (by decide) (hts _ (kc k_97)) (fun _ h9 => h9) rfl dX3_countEndingBefore_9 ?_
      refine lv_icmp_ge (tgt := 93) hx hb dX3_countEndingBefore_12 (by decide) (fun c_12_1 => ?_) (fun c_12_1 => ?_)
      · skip
        refine lv_iload_n hx hb dX3_countEndingBefore_93 rfl (lv_at hl 2 rfl) ?_
        exact W.iret (v := x2) hx hb hr (fun t ht hW => ⟨_, rfl, hw.symm.trans hR, ht⟩) (fun _ h => by cases h) dX3_countEndingBefore_94
      · skip
        exact absurd (lpE (iv_cnt hiv) hkn (by omega)) c_12_1
    | succ n ih =>
      intro k x2 ls hkn hl hw
      rw [sp_countEndingBefore_4_s] at hw
      have hkf : vp_in (nI k) 40 := vp_in_nI (by omega) (by decide)
      refine lv_iload_n hx hb dX3_countEndingBefore_4 rfl (lv_at hl 3 rfl) ?_
      refine lv_aload_n hx hb dX3_countEndingBefore_5 rfl (lv_at hl 0 rfl) ?_
      refine va_get (D := (dC, dI)) (ci := 3) (v := .ref (a 7)) (C := RX3) (T := TX3) (N := 6) hx hb hts (iwX3 _) hown hK hP 0 rfl rfl 1 (by decide) (hts _ (kc k_155)) (fun _ h9 => h9) rfl dX3_countEndingBefore_6 ?_
      refine va_get (D := (dC, dI)) (ci := 2) (v := .int (σ 7 11)) (C := RX2) (T := TX2) (N := 12) hx hb hts (iwX2 _) hown hK hP 7 rfl rfl 11 (by decide) (hts _ (kc k_97)) (fun _ h9 => h9) rfl dX3_countEndingBefore_9 ?_
      refine lv_icmp_ge (tgt := 93) hx hb dX3_countEndingBefore_12 (by decide) (fun c_12_2 => ?_) (fun c_12_2 => ?_)
      · skip
        exact absurd c_12_2 (lpB (iv_cnt hiv) hkn (by omega))
      · skip
        refine lv_aload_n hx hb dX3_countEndingBefore_15 rfl (lv_at hl 0 rfl) ?_
        refine va_get (D := (dC, dI)) (ci := 3) (v := .ref (a 26)) (C := RX3) (T := TX3) (N := 6) hx hb hts (iwX3 _) hown hK hP 0 rfl rfl 4 (by decide) (hts _ (kc k_158)) (fun _ h9 => h9) rfl dX3_countEndingBefore_16 ?_
        refine lv_iload_n hx hb dX3_countEndingBefore_19 rfl (lv_at hl 3 rfl) ?_
        refine va_iald (D := (dC, dI)) (f := σ 26) hx hb hK hP 26 0 rfl rfl (i := nI k) hkf dX3_countEndingBefore_20 ?_
        refine lv_aload_n hx hb dX3_countEndingBefore_21 rfl (lv_at hl 0 rfl) ?_
        refine va_get (D := (dC, dI)) (ci := 3) (v := .ref (a 26)) (C := RX3) (T := TX3) (N := 6) hx hb hts (iwX3 _) hown hK hP 0 rfl rfl 4 (by decide) (hts _ (kc k_158)) (fun _ h9 => h9) rfl dX3_countEndingBefore_22 ?_
        refine lv_iload_n hx hb dX3_countEndingBefore_25 rfl (lv_at hl 1 rfl) ?_
        refine va_iald (D := (dC, dI)) (f := σ 26) hx hb hK hP 26 0 rfl rfl (i := x1) h1 dX3_countEndingBefore_26 ?_
        refine lv_icmp_ge (tgt := 34) hx hb dX3_countEndingBefore_27 (by decide) (fun c_27_3 => ?_) (fun c_27_3 => ?_)
        · skip
          rw [if_pos c_27_3] at hw
          refine lv_iconst (v := 0) hx hb dX3_countEndingBefore_34 (by decide) ?_
          refine lv_istore (lv' := [(4, .int (0 : Int32)), (0, .ref (a 0)), (1, .int x1), (2, .int x2), (3, .int (nI k))]) hx hb dX3_countEndingBefore_35 hl (by decide) rfl (fun ls hl => ?_)
          refine lv_aload_n hx hb dX3_countEndingBefore_37 rfl (lv_at hl 1 rfl) ?_
          refine va_get (D := (dC, dI)) (ci := 3) (v := .ref (a 26)) (C := RX3) (T := TX3) (N := 6) hx hb hts (iwX3 _) hown hK hP 0 rfl rfl 4 (by decide) (hts _ (kc k_158)) (fun _ h9 => h9) rfl dX3_countEndingBefore_38 ?_
          refine lv_iload_n hx hb dX3_countEndingBefore_41 rfl (lv_at hl 4 rfl) ?_
          refine va_iald (D := (dC, dI)) (f := σ 26) hx hb hK hP 26 0 rfl rfl (i := nI k) hkf dX3_countEndingBefore_42 ?_
          refine lv_aload_n hx hb dX3_countEndingBefore_43 rfl (lv_at hl 1 rfl) ?_
          refine va_get (D := (dC, dI)) (ci := 3) (v := .ref (a 26)) (C := RX3) (T := TX3) (N := 6) hx hb hts (iwX3 _) hown hK hP 0 rfl rfl 4 (by decide) (hts _ (kc k_158)) (fun _ h9 => h9) rfl dX3_countEndingBefore_44 ?_
          refine lv_iload_n hx hb dX3_countEndingBefore_47 rfl (lv_at hl 2 rfl) ?_
          refine va_iald (D := (dC, dI)) (f := σ 26) hx hb hK hP 26 0 rfl rfl (i := x1) h1 dX3_countEndingBefore_48 ?_
          refine lv_icmp_ne (tgt := 61) hx hb dX3_countEndingBefore_49 (by decide) (fun c_49_4 => ?_) (fun c_49_4 => ?_)
          · skip
            rw [if_neg c_49_4] at hw
            refine lv_iconst (v := 0) hx hb dX3_countEndingBefore_61 (by decide) ?_
            refine lv_istore (lv' := [(5, .int (0 : Int32)), (4, .int (0 : Int32)), (0, .ref (a 0)), (1, .int x1), (2, .int x2), (3, .int (nI k))]) hx hb dX3_countEndingBefore_62 hl (by decide) rfl (fun ls hl => ?_)
            refine lv_aload_n hx hb dX3_countEndingBefore_64 rfl (lv_at hl 2 rfl) ?_
            refine va_get (D := (dC, dI)) (ci := 3) (v := .ref (a 26)) (C := RX3) (T := TX3) (N := 6) hx hb hts (iwX3 _) hown hK hP 0 rfl rfl 4 (by decide) (hts _ (kc k_158)) (fun _ h9 => h9) rfl dX3_countEndingBefore_65 ?_
            refine lv_iload_n hx hb dX3_countEndingBefore_68 rfl (lv_at hl 5 rfl) ?_
            refine va_iald (D := (dC, dI)) (f := σ 26) hx hb hK hP 26 0 rfl rfl (i := nI k) hkf dX3_countEndingBefore_69 ?_
            refine lv_iconst (v := -1) hx hb dX3_countEndingBefore_70 (by decide) ?_
            refine lv_icmp_eq (tgt := 87) hx hb dX3_countEndingBefore_71 (by decide) (fun c_71_5 => ?_) (fun c_71_5 => ?_)
            · skip
              rw [if_pos c_71_5] at hw
              refine lv_iinc (v := (nI (k + 1))) (lv' := [(3, .int (nI (k + 1))), (5, .int (0 : Int32)), (4, .int (0 : Int32)), (0, .ref (a 0)), (1, .int x1), (2, .int x2)]) hx hb dX3_countEndingBefore_87 hl (k := 5) rfl (nI_1 k) (by decide) rfl (fun ls hl => ?_)
              refine lv_goto (tgt := 4) hx hb dX3_countEndingBefore_90 (by decide) ?_
              exact ih (k + 1) x2 ls (by omega) (lv_sub hl [3, 4, 5, 0] rfl) hw
            · skip
              rw [if_neg c_71_5] at hw
              refine lv_iload hx hb dX3_countEndingBefore_74 (lv_at hl 1 rfl) ?_
              refine lv_if_ne (tgt := 84) hx hb dX3_countEndingBefore_76 (by decide) (fun c_76_6 => ?_) (fun c_76_6 => ?_)
              · skip
                exact absurd c_76_6 (by decide)
              · skip
                refine lv_iload hx hb dX3_countEndingBefore_79 (lv_at hl 0 rfl) ?_
                refine lv_if_eq (tgt := 87) hx hb dX3_countEndingBefore_81 (by decide) (fun c_81_7 => ?_) (fun c_81_7 => ?_)
                · skip
                  refine lv_iinc (v := (nI (k + 1))) (lv' := [(3, .int (nI (k + 1))), (5, .int (0 : Int32)), (4, .int (0 : Int32)), (0, .ref (a 0)), (1, .int x1), (2, .int x2)]) hx hb dX3_countEndingBefore_87 hl (k := 5) rfl (nI_1 k) (by decide) rfl (fun ls hl => ?_)
                  refine lv_goto (tgt := 4) hx hb dX3_countEndingBefore_90 (by decide) ?_
                  exact ih (k + 1) x2 ls (by omega) (lv_sub hl [3, 4, 5, 0] rfl) hw
                · skip
                  exact absurd c_81_7 (by decide)
          · skip
            rw [if_pos c_49_4] at hw
            refine lv_iload_n hx hb dX3_countEndingBefore_52 rfl (lv_at hl 4 rfl) ?_
            refine lv_iload_n hx hb dX3_countEndingBefore_53 rfl (lv_at hl 2 rfl) ?_
            refine lv_icmp_ge (tgt := 61) hx hb dX3_countEndingBefore_54 (by decide) (fun c_54_8 => ?_) (fun c_54_8 => ?_)
            · skip
              rw [if_pos c_54_8] at hw
              refine lv_iconst (v := 0) hx hb dX3_countEndingBefore_61 (by decide) ?_
              refine lv_istore (lv' := [(5, .int (0 : Int32)), (4, .int (0 : Int32)), (0, .ref (a 0)), (1, .int x1), (2, .int x2), (3, .int (nI k))]) hx hb dX3_countEndingBefore_62 hl (by decide) rfl (fun ls hl => ?_)
              refine lv_aload_n hx hb dX3_countEndingBefore_64 rfl (lv_at hl 2 rfl) ?_
              refine va_get (D := (dC, dI)) (ci := 3) (v := .ref (a 26)) (C := RX3) (T := TX3) (N := 6) hx hb hts (iwX3 _) hown hK hP 0 rfl rfl 4 (by decide) (hts _ (kc k_158)) (fun _ h9 => h9) rfl dX3_countEndingBefore_65 ?_
              refine lv_iload_n hx hb dX3_countEndingBefore_68 rfl (lv_at hl 5 rfl) ?_
              refine va_iald (D := (dC, dI)) (f := σ 26) hx hb hK hP 26 0 rfl rfl (i := nI k) hkf dX3_countEndingBefore_69 ?_
              refine lv_iconst (v := -1) hx hb dX3_countEndingBefore_70 (by decide) ?_
              refine lv_icmp_eq (tgt := 87) hx hb dX3_countEndingBefore_71 (by decide) (fun c_71_9 => ?_) (fun c_71_9 => ?_)
              · skip
                rw [if_pos c_71_9] at hw
                refine lv_iinc (v := (nI (k + 1))) (lv' := [(3, .int (nI (k + 1))), (5, .int (0 : Int32)), (4, .int (0 : Int32)), (0, .ref (a 0)), (1, .int x1), (2, .int x2)]) hx hb dX3_countEndingBefore_87 hl (k := 5) rfl (nI_1 k) (by decide) rfl (fun ls hl => ?_)
                refine lv_goto (tgt := 4) hx hb dX3_countEndingBefore_90 (by decide) ?_
                exact ih (k + 1) x2 ls (by omega) (lv_sub hl [3, 4, 5, 0] rfl) hw
              · skip
                rw [if_neg c_71_9] at hw
                refine lv_iload hx hb dX3_countEndingBefore_74 (lv_at hl 1 rfl) ?_
                refine lv_if_ne (tgt := 84) hx hb dX3_countEndingBefore_76 (by decide) (fun c_76_10 => ?_) (fun c_76_10 => ?_)
                · skip
                  exact absurd c_76_10 (by decide)
                · skip
                  refine lv_iload hx hb dX3_countEndingBefore_79 (lv_at hl 0 rfl) ?_
                  refine lv_if_eq (tgt := 87) hx hb dX3_countEndingBefore_81 (by decide) (fun c_81_11 => ?_) (fun c_81_11 => ?_)
                  · skip
                    refine lv_iinc (v := (nI (k + 1))) (lv' := [(3, .int (nI (k + 1))), (5, .int (0 : Int32)), (4, .int (0 : Int32)), (0, .ref (a 0)), (1, .int x1), (2, .int x2)]) hx hb dX3_countEndingBefore_87 hl (k := 5) rfl (nI_1 k) (by decide) rfl (fun ls hl => ?_)
                    refine lv_goto (tgt := 4) hx hb dX3_countEndingBefore_90 (by decide) ?_
                    exact ih (k + 1) x2 ls (by omega) (lv_sub hl [3, 4, 5, 0] rfl) hw
                  · skip
                    exact absurd c_81_11 (by decide)
            · skip
              rw [if_neg c_54_8] at hw
              refine lv_iconst (v := 1) hx hb dX3_countEndingBefore_57 (by decide) ?_
              refine lv_goto (tgt := 62) hx hb dX3_countEndingBefore_58 (by decide) ?_
              refine lv_istore (lv' := [(5, .int (1 : Int32)), (4, .int (0 : Int32)), (0, .ref (a 0)), (1, .int x1), (2, .int x2), (3, .int (nI k))]) hx hb dX3_countEndingBefore_62 hl (by decide) rfl (fun ls hl => ?_)
              refine lv_aload_n hx hb dX3_countEndingBefore_64 rfl (lv_at hl 2 rfl) ?_
              refine va_get (D := (dC, dI)) (ci := 3) (v := .ref (a 26)) (C := RX3) (T := TX3) (N := 6) hx hb hts (iwX3 _) hown hK hP 0 rfl rfl 4 (by decide) (hts _ (kc k_158)) (fun _ h9 => h9) rfl dX3_countEndingBefore_65 ?_
              refine lv_iload_n hx hb dX3_countEndingBefore_68 rfl (lv_at hl 5 rfl) ?_
              refine va_iald (D := (dC, dI)) (f := σ 26) hx hb hK hP 26 0 rfl rfl (i := nI k) hkf dX3_countEndingBefore_69 ?_
              refine lv_iconst (v := -1) hx hb dX3_countEndingBefore_70 (by decide) ?_
              refine lv_icmp_eq (tgt := 87) hx hb dX3_countEndingBefore_71 (by decide) (fun c_71_12 => ?_) (fun c_71_12 => ?_)
              · skip
                rw [if_pos c_71_12] at hw
                refine lv_iinc (v := (nI (k + 1))) (lv' := [(3, .int (nI (k + 1))), (5, .int (1 : Int32)), (4, .int (0 : Int32)), (0, .ref (a 0)), (1, .int x1), (2, .int x2)]) hx hb dX3_countEndingBefore_87 hl (k := 5) rfl (nI_1 k) (by decide) rfl (fun ls hl => ?_)
                refine lv_goto (tgt := 4) hx hb dX3_countEndingBefore_90 (by decide) ?_
                exact ih (k + 1) x2 ls (by omega) (lv_sub hl [3, 4, 5, 0] rfl) hw
              · skip
                rw [if_neg c_71_12] at hw
                refine lv_iload hx hb dX3_countEndingBefore_74 (lv_at hl 1 rfl) ?_
                refine lv_if_ne (tgt := 84) hx hb dX3_countEndingBefore_76 (by decide) (fun c_76_13 => ?_) (fun c_76_13 => ?_)
                · skip
                  exact absurd c_76_13 (by decide)
                · skip
                  refine lv_iload hx hb dX3_countEndingBefore_79 (lv_at hl 0 rfl) ?_
                  refine lv_if_eq (tgt := 87) hx hb dX3_countEndingBefore_81 (by decide) (fun c_81_14 => ?_) (fun c_81_14 => ?_)
                  · skip
                    exact absurd c_81_14 (by decide)
                  · skip
                    refine lv_iinc (v := (x2 + (1 : Int32))) (lv' := [(2, .int (x2 + (1 : Int32))), (5, .int (1 : Int32)), (4, .int (0 : Int32)), (0, .ref (a 0)), (1, .int x1), (3, .int (nI k))]) hx hb dX3_countEndingBefore_84 hl (k := 4) rfl rfl (by decide) rfl (fun ls hl => ?_)
                    refine lv_iinc (v := (nI (k + 1))) (lv' := [(3, .int (nI (k + 1))), (2, .int (x2 + (1 : Int32))), (5, .int (1 : Int32)), (4, .int (0 : Int32)), (0, .ref (a 0)), (1, .int x1)]) hx hb dX3_countEndingBefore_87 hl (k := 5) rfl (nI_1 k) (by decide) rfl (fun ls hl => ?_)
                    refine lv_goto (tgt := 4) hx hb dX3_countEndingBefore_90 (by decide) ?_
                    exact ih (k + 1) (x2 + (1 : Int32)) ls (by omega) (lv_sub hl [4, 5, 1, 0] rfl) hw
        · skip
          rw [if_neg c_27_3] at hw
          refine lv_iconst (v := 1) hx hb dX3_countEndingBefore_30 (by decide) ?_
          refine lv_goto (tgt := 35) hx hb dX3_countEndingBefore_31 (by decide) ?_
          refine lv_istore (lv' := [(4, .int (1 : Int32)), (0, .ref (a 0)), (1, .int x1), (2, .int x2), (3, .int (nI k))]) hx hb dX3_countEndingBefore_35 hl (by decide) rfl (fun ls hl => ?_)
          refine lv_aload_n hx hb dX3_countEndingBefore_37 rfl (lv_at hl 1 rfl) ?_
          refine va_get (D := (dC, dI)) (ci := 3) (v := .ref (a 26)) (C := RX3) (T := TX3) (N := 6) hx hb hts (iwX3 _) hown hK hP 0 rfl rfl 4 (by decide) (hts _ (kc k_158)) (fun _ h9 => h9) rfl dX3_countEndingBefore_38 ?_
          refine lv_iload_n hx hb dX3_countEndingBefore_41 rfl (lv_at hl 4 rfl) ?_
          refine va_iald (D := (dC, dI)) (f := σ 26) hx hb hK hP 26 0 rfl rfl (i := nI k) hkf dX3_countEndingBefore_42 ?_
          refine lv_aload_n hx hb dX3_countEndingBefore_43 rfl (lv_at hl 1 rfl) ?_
          refine va_get (D := (dC, dI)) (ci := 3) (v := .ref (a 26)) (C := RX3) (T := TX3) (N := 6) hx hb hts (iwX3 _) hown hK hP 0 rfl rfl 4 (by decide) (hts _ (kc k_158)) (fun _ h9 => h9) rfl dX3_countEndingBefore_44 ?_
          refine lv_iload_n hx hb dX3_countEndingBefore_47 rfl (lv_at hl 2 rfl) ?_
          refine va_iald (D := (dC, dI)) (f := σ 26) hx hb hK hP 26 0 rfl rfl (i := x1) h1 dX3_countEndingBefore_48 ?_
          refine lv_icmp_ne (tgt := 61) hx hb dX3_countEndingBefore_49 (by decide) (fun c_49_15 => ?_) (fun c_49_15 => ?_)
          · skip
            rw [if_neg c_49_15] at hw
            refine lv_iconst (v := 0) hx hb dX3_countEndingBefore_61 (by decide) ?_
            refine lv_istore (lv' := [(5, .int (0 : Int32)), (4, .int (1 : Int32)), (0, .ref (a 0)), (1, .int x1), (2, .int x2), (3, .int (nI k))]) hx hb dX3_countEndingBefore_62 hl (by decide) rfl (fun ls hl => ?_)
            refine lv_aload_n hx hb dX3_countEndingBefore_64 rfl (lv_at hl 2 rfl) ?_
            refine va_get (D := (dC, dI)) (ci := 3) (v := .ref (a 26)) (C := RX3) (T := TX3) (N := 6) hx hb hts (iwX3 _) hown hK hP 0 rfl rfl 4 (by decide) (hts _ (kc k_158)) (fun _ h9 => h9) rfl dX3_countEndingBefore_65 ?_
            refine lv_iload_n hx hb dX3_countEndingBefore_68 rfl (lv_at hl 5 rfl) ?_
            refine va_iald (D := (dC, dI)) (f := σ 26) hx hb hK hP 26 0 rfl rfl (i := nI k) hkf dX3_countEndingBefore_69 ?_
            refine lv_iconst (v := -1) hx hb dX3_countEndingBefore_70 (by decide) ?_
            refine lv_icmp_eq (tgt := 87) hx hb dX3_countEndingBefore_71 (by decide) (fun c_71_16 => ?_) (fun c_71_16 => ?_)
            · skip
              rw [if_pos c_71_16] at hw
              refine lv_iinc (v := (nI (k + 1))) (lv' := [(3, .int (nI (k + 1))), (5, .int (0 : Int32)), (4, .int (1 : Int32)), (0, .ref (a 0)), (1, .int x1), (2, .int x2)]) hx hb dX3_countEndingBefore_87 hl (k := 5) rfl (nI_1 k) (by decide) rfl (fun ls hl => ?_)
              refine lv_goto (tgt := 4) hx hb dX3_countEndingBefore_90 (by decide) ?_
              exact ih (k + 1) x2 ls (by omega) (lv_sub hl [3, 4, 5, 0] rfl) hw
            · skip
              rw [if_neg c_71_16] at hw
              refine lv_iload hx hb dX3_countEndingBefore_74 (lv_at hl 1 rfl) ?_
              refine lv_if_ne (tgt := 84) hx hb dX3_countEndingBefore_76 (by decide) (fun c_76_17 => ?_) (fun c_76_17 => ?_)
              · skip
                refine lv_iinc (v := (x2 + (1 : Int32))) (lv' := [(2, .int (x2 + (1 : Int32))), (5, .int (0 : Int32)), (4, .int (1 : Int32)), (0, .ref (a 0)), (1, .int x1), (3, .int (nI k))]) hx hb dX3_countEndingBefore_84 hl (k := 4) rfl rfl (by decide) rfl (fun ls hl => ?_)
                refine lv_iinc (v := (nI (k + 1))) (lv' := [(3, .int (nI (k + 1))), (2, .int (x2 + (1 : Int32))), (5, .int (0 : Int32)), (4, .int (1 : Int32)), (0, .ref (a 0)), (1, .int x1)]) hx hb dX3_countEndingBefore_87 hl (k := 5) rfl (nI_1 k) (by decide) rfl (fun ls hl => ?_)
                refine lv_goto (tgt := 4) hx hb dX3_countEndingBefore_90 (by decide) ?_
                exact ih (k + 1) (x2 + (1 : Int32)) ls (by omega) (lv_sub hl [4, 5, 1, 0] rfl) hw
              · skip
                exact absurd c_76_17 (by decide)
          · skip
            rw [if_pos c_49_15] at hw
            refine lv_iload_n hx hb dX3_countEndingBefore_52 rfl (lv_at hl 4 rfl) ?_
            refine lv_iload_n hx hb dX3_countEndingBefore_53 rfl (lv_at hl 2 rfl) ?_
            refine lv_icmp_ge (tgt := 61) hx hb dX3_countEndingBefore_54 (by decide) (fun c_54_18 => ?_) (fun c_54_18 => ?_)
            · skip
              rw [if_pos c_54_18] at hw
              refine lv_iconst (v := 0) hx hb dX3_countEndingBefore_61 (by decide) ?_
              refine lv_istore (lv' := [(5, .int (0 : Int32)), (4, .int (1 : Int32)), (0, .ref (a 0)), (1, .int x1), (2, .int x2), (3, .int (nI k))]) hx hb dX3_countEndingBefore_62 hl (by decide) rfl (fun ls hl => ?_)
              refine lv_aload_n hx hb dX3_countEndingBefore_64 rfl (lv_at hl 2 rfl) ?_
              refine va_get (D := (dC, dI)) (ci := 3) (v := .ref (a 26)) (C := RX3) (T := TX3) (N := 6) hx hb hts (iwX3 _) hown hK hP 0 rfl rfl 4 (by decide) (hts _ (kc k_158)) (fun _ h9 => h9) rfl dX3_countEndingBefore_65 ?_
              refine lv_iload_n hx hb dX3_countEndingBefore_68 rfl (lv_at hl 5 rfl) ?_
              refine va_iald (D := (dC, dI)) (f := σ 26) hx hb hK hP 26 0 rfl rfl (i := nI k) hkf dX3_countEndingBefore_69 ?_
              refine lv_iconst (v := -1) hx hb dX3_countEndingBefore_70 (by decide) ?_
              refine lv_icmp_eq (tgt := 87) hx hb dX3_countEndingBefore_71 (by decide) (fun c_71_19 => ?_) (fun c_71_19 => ?_)
              · skip
                rw [if_pos c_71_19] at hw
                refine lv_iinc (v := (nI (k + 1))) (lv' := [(3, .int (nI (k + 1))), (5, .int (0 : Int32)), (4, .int (1 : Int32)), (0, .ref (a 0)), (1, .int x1), (2, .int x2)]) hx hb dX3_countEndingBefore_87 hl (k := 5) rfl (nI_1 k) (by decide) rfl (fun ls hl => ?_)
                refine lv_goto (tgt := 4) hx hb dX3_countEndingBefore_90 (by decide) ?_
                exact ih (k + 1) x2 ls (by omega) (lv_sub hl [3, 4, 5, 0] rfl) hw
              · skip
                rw [if_neg c_71_19] at hw
                refine lv_iload hx hb dX3_countEndingBefore_74 (lv_at hl 1 rfl) ?_
                refine lv_if_ne (tgt := 84) hx hb dX3_countEndingBefore_76 (by decide) (fun c_76_20 => ?_) (fun c_76_20 => ?_)
                · skip
                  refine lv_iinc (v := (x2 + (1 : Int32))) (lv' := [(2, .int (x2 + (1 : Int32))), (5, .int (0 : Int32)), (4, .int (1 : Int32)), (0, .ref (a 0)), (1, .int x1), (3, .int (nI k))]) hx hb dX3_countEndingBefore_84 hl (k := 4) rfl rfl (by decide) rfl (fun ls hl => ?_)
                  refine lv_iinc (v := (nI (k + 1))) (lv' := [(3, .int (nI (k + 1))), (2, .int (x2 + (1 : Int32))), (5, .int (0 : Int32)), (4, .int (1 : Int32)), (0, .ref (a 0)), (1, .int x1)]) hx hb dX3_countEndingBefore_87 hl (k := 5) rfl (nI_1 k) (by decide) rfl (fun ls hl => ?_)
                  refine lv_goto (tgt := 4) hx hb dX3_countEndingBefore_90 (by decide) ?_
                  exact ih (k + 1) (x2 + (1 : Int32)) ls (by omega) (lv_sub hl [4, 5, 1, 0] rfl) hw
                · skip
                  exact absurd c_76_20 (by decide)
            · skip
              rw [if_neg c_54_18] at hw
              refine lv_iconst (v := 1) hx hb dX3_countEndingBefore_57 (by decide) ?_
              refine lv_goto (tgt := 62) hx hb dX3_countEndingBefore_58 (by decide) ?_
              refine lv_istore (lv' := [(5, .int (1 : Int32)), (4, .int (1 : Int32)), (0, .ref (a 0)), (1, .int x1), (2, .int x2), (3, .int (nI k))]) hx hb dX3_countEndingBefore_62 hl (by decide) rfl (fun ls hl => ?_)
              refine lv_aload_n hx hb dX3_countEndingBefore_64 rfl (lv_at hl 2 rfl) ?_
              refine va_get (D := (dC, dI)) (ci := 3) (v := .ref (a 26)) (C := RX3) (T := TX3) (N := 6) hx hb hts (iwX3 _) hown hK hP 0 rfl rfl 4 (by decide) (hts _ (kc k_158)) (fun _ h9 => h9) rfl dX3_countEndingBefore_65 ?_
              refine lv_iload_n hx hb dX3_countEndingBefore_68 rfl (lv_at hl 5 rfl) ?_
              refine va_iald (D := (dC, dI)) (f := σ 26) hx hb hK hP 26 0 rfl rfl (i := nI k) hkf dX3_countEndingBefore_69 ?_
              refine lv_iconst (v := -1) hx hb dX3_countEndingBefore_70 (by decide) ?_
              refine lv_icmp_eq (tgt := 87) hx hb dX3_countEndingBefore_71 (by decide) (fun c_71_21 => ?_) (fun c_71_21 => ?_)
              · skip
                rw [if_pos c_71_21] at hw
                refine lv_iinc (v := (nI (k + 1))) (lv' := [(3, .int (nI (k + 1))), (5, .int (1 : Int32)), (4, .int (1 : Int32)), (0, .ref (a 0)), (1, .int x1), (2, .int x2)]) hx hb dX3_countEndingBefore_87 hl (k := 5) rfl (nI_1 k) (by decide) rfl (fun ls hl => ?_)
                refine lv_goto (tgt := 4) hx hb dX3_countEndingBefore_90 (by decide) ?_
                exact ih (k + 1) x2 ls (by omega) (lv_sub hl [3, 4, 5, 0] rfl) hw
              · skip
                rw [if_neg c_71_21] at hw
                refine lv_iload hx hb dX3_countEndingBefore_74 (lv_at hl 1 rfl) ?_
                refine lv_if_ne (tgt := 84) hx hb dX3_countEndingBefore_76 (by decide) (fun c_76_22 => ?_) (fun c_76_22 => ?_)
                · skip
                  refine lv_iinc (v := (x2 + (1 : Int32))) (lv' := [(2, .int (x2 + (1 : Int32))), (5, .int (1 : Int32)), (4, .int (1 : Int32)), (0, .ref (a 0)), (1, .int x1), (3, .int (nI k))]) hx hb dX3_countEndingBefore_84 hl (k := 4) rfl rfl (by decide) rfl (fun ls hl => ?_)
                  refine lv_iinc (v := (nI (k + 1))) (lv' := [(3, .int (nI (k + 1))), (2, .int (x2 + (1 : Int32))), (5, .int (1 : Int32)), (4, .int (1 : Int32)), (0, .ref (a 0)), (1, .int x1)]) hx hb dX3_countEndingBefore_87 hl (k := 5) rfl (nI_1 k) (by decide) rfl (fun ls hl => ?_)
                  refine lv_goto (tgt := 4) hx hb dX3_countEndingBefore_90 (by decide) ?_
                  exact ih (k + 1) (x2 + (1 : Int32)) ls (by omega) (lv_sub hl [4, 5, 1, 0] rfl) hw
                · skip
                  exact absurd c_76_22 (by decide)
  exact loop (cntN σ) 0 (0 : Int32) ls (Nat.zero_add _) (lv_sub hl [2, 3, 1, 0] rfl) hw
