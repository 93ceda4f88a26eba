set_option maxHeartbeats 4000000 in
set_option maxRecDepth 100000 in
theorem m_X4_greatest (l : Launch) (dC : Nat → ClassId) (dI : Nat → Nat → Nat) (cI cZ : ClassId) (a : Nat → Nat) (sz : Nat) (σ : St) (x1 : Int32) (x2 : Int64) (x4 : Int32) (x5 : Int32) (x6 : Int32) (hc : x1 = nI x1.toNatClampNeg) (hn5 : x5 = nI x5.toNatClampNeg) (hn56 : x5.toNatClampNeg ≤ 6) (hw6 : x6 = nI x6.toNatClampNeg) (hw61 : 1 ≤ x6.toNatClampNeg) (hw64 : x6.toNatClampNeg ≤ 4) : Met l yX4_greatest wsX4_greatest ({ frames := 1, cells := 0, slots := 0, locals := 25 }) (pMr dC dI cI cZ a sz σ [.ref (a 0), .int x1, .long x2, .int x4, .int x5, .int x6]) (va_Qi (fun r σ9 => (r, σ9) = rf_greatest σ x1 x2 x4 x5 x6) (bMr dC dI cI cZ a (va_A (rw cI cZ a σ) sz)) (va_A (rw cI cZ a σ) sz)) 0 0 (va_A (rw cI cZ a σ) sz) := by
  refine Met.ofW (cc := cX4_greatest) (maxL := 9) (ret := (some .int)) (by decide) rfl ?_
  intro p e s m args below meth c s₁ B hml hv
  obtain ⟨rfl, hsz, hP, hK, hD0⟩ := hv
  have hx := B.exec
  have hb := B.bytes
  have hr := B.returns
  have hts := atoms_spec (ws := wsX4_greatest) B.pre
  have hown : s.vm.findClass RX4 = some m.cls := findClass_of_methodNamed B.named
  have hlocks := B.notSynchronized
  subst hsz
  have hD := hD0.self (sz := s.heap.size)
  generalize hAe : va_A (rw cI cZ a σ) s.heap.size = A at hD ⊢
  have hA : ∀ q : Nat, s.heap.size ≤ q → A q := fun q h => by rw [← hAe]; exact Or.inr h
  clear hAe hD0
  obtain ⟨H, hHe⟩ : ∃ z, z = s.heap := ⟨_, rfl⟩
  obtain ⟨locs, hLe⟩ : ∃ z : List Loc, z = [] := ⟨_, rfl⟩
  have hS : va_S A s.heap H locs := by rw [hHe, hLe]; exact va_S.rf
  have hP : va_P (dC, dI) vwCl (rw cI cZ a σ) H := by rw [hHe]; exact hP
  refine W_ofH hHe hLe ?_
  clear hHe hLe
  have hl := lv_entry ([.ref (a 0), .int x1, .long x2, .int x4, .int x5, .int x6]) (n := 9) (Nat.le_of_ble_eq_true rfl)
  rw [lg_entry_eq]
  generalize (lg_sl ([.ref (a 0), .int x1, .long x2, .int x4, .int x5, .int x6]) ++ List.replicate (9 - (lg_sl ([.ref (a 0), .int x1, .long x2, .int x4, .int x5, .int x6])).length) Slot.unset).toArray = ls at hl ⊢
  have hl : lv_has ls 9 [(0, .ref (a 0)), (1, .int x1), (2, .long x2), (4, .int x4), (5, .int x5), (6, .int x6)] := hl
  obtain ⟨R, hR⟩ : ∃ z, z = rf_greatest σ x1 x2 x4 x5 x6 := ⟨_, rfl⟩
  have hw := hR
  unfold rf_greatest at hw
  refine lv_iconst (v := 0) hx hb dX4_greatest_0 (by decide) ?_
  refine lv_istore (lv' := [(7, .int (0 : Int32)), (0, .ref (a 0)), (1, .int x1), (2, .long x2), (4, .int x4), (5, .int x5), (6, .int x6)]) hx hb dX4_greatest_1 hl (by decide) rfl (fun ls hl => ?_)
  have loop : ∀ (n k : Nat) (σ1 : St) (H : Heap) (locs : List Loc) (ls : Array Slot), k + n = 4 → va_P (dC, dI) vwCl (rw cI cZ a σ1) H → va_D A (rw cI cZ a σ1) → va_S A s.heap H locs → lv_has ls 9 [(0, .ref (a 0)), (1, .int x1), (2, .long x2), (4, .int x4), (5, .int x5), (6, .int x6), (7, .int (nI k))] → R = rf_greatest_3 σ x1 x2 x4 x5 x6 σ1 n k → W p l e (headSpec wsX4_greatest ({ frames := 1, cells := 0, slots := 0, locals := 25 })).room s m [.ref (a 0), .int x1, .long x2, .int x4, .int x5, .int x6].toArray below meth c H locs 0 0 (MQ below (va_Qi (fun r σ9 => (r, σ9) = rf_greatest σ x1 x2 x4 x5 x6) (bMr dC dI cI cZ a A) A) [.ref (a 0), .int x1, .long x2, .int x4, .int x5, .int x6].toArray s 0 0 A) (F0 m 3 ls []) := by
    intro n
    induction n with
    | zero =>
      intro k σ1 H locs ls hkn hP hD hS hl hw
      rw [rf_greatest_3_0] at hw
      refine lv_iload hx hb dX4_greatest_3 (lv_at hl 6 rfl) ?_
      refine lv_iconst (v := 4) hx hb dX4_greatest_5 (by decide) ?_
      refine lv_icmp_ge (tgt := 23) hx hb dX4_greatest_6 (by decide) (fun c_6_1 => ?_) (fun c_6_1 => ?_)
      · skip
        refine lv_iconst (v := 0) hx hb dX4_greatest_23 (by decide) ?_
        refine lv_istore (lv' := [(7, .int (0 : Int32)), (0, .ref (a 0)), (1, .int x1), (2, .long x2), (4, .int x4), (5, .int x5), (6, .int x6)]) hx hb dX4_greatest_24 hl (by decide) rfl (fun ls hl => ?_)
        have loop : ∀ (n k : Nat) (σ1 : St) (H : Heap) (locs : List Loc) (ls : Array Slot), k + n = x5.toNatClampNeg → va_P (dC, dI) vwCl (rw cI cZ a σ1) H → va_D A (rw cI cZ a σ1) → va_S A s.heap H locs → lv_has ls 9 [(0, .ref (a 0)), (1, .int x1), (2, .long x2), (4, .int x4), (5, .int x5), (6, .int x6), (7, .int (nI k))] → R = rf_greatest_26 σ x1 x2 x4 x5 x6 σ1 n k → W p l e (headSpec wsX4_greatest ({ frames := 1, cells := 0, slots := 0, locals := 25 })).room s m [.ref (a 0), .int x1, .long x2, .int x4, .int x5, .int x6].toArray below meth c H locs 0 0 (MQ below (va_Qi (fun r σ9 => (r, σ9) = rf_greatest σ x1 x2 x4 x5 x6) (bMr dC dI cI cZ a A) A) [.ref (a 0), .int x1, .long x2, .int x4, .int x5, .int x6].toArray s 0 0 A) (F0 m 26 ls []) := by
          intro n
          induction n with
          | zero =>
            intro k σ1 H locs ls hkn hP hD hS hl hw
            rw [rf_greatest_26_0] at hw
            refine lv_iload hx hb dX4_greatest_26 (lv_at hl 6 rfl) ?_
            refine lv_iload hx hb dX4_greatest_28 (lv_at hl 4 rfl) ?_
            refine lv_icmp_ge (tgt := 89) hx hb dX4_greatest_30 (by decide) (fun c_30_2 => ?_) (fun c_30_2 => ?_)
            · skip
              refine lv_iconst (v := 0) hx hb dX4_greatest_89 (by decide) ?_
              refine lv_istore (lv' := [(7, .int (0 : Int32)), (0, .ref (a 0)), (1, .int x1), (2, .long x2), (4, .int x4), (5, .int x5), (6, .int x6)]) hx hb dX4_greatest_90 hl (by decide) rfl (fun ls hl => ?_)
              refine lv_iconst (v := 0) hx hb dX4_greatest_92 (by decide) ?_
              refine lv_istore (lv' := [(8, .int (0 : Int32)), (7, .int (0 : Int32)), (0, .ref (a 0)), (1, .int x1), (2, .long x2), (4, .int x4), (5, .int x5), (6, .int x6)]) hx hb dX4_greatest_93 hl (by decide) rfl (fun ls hl => ?_)
              have loop : ∀ (n k : Nat) (x7 : Int32) (σ1 : St) (H : Heap) (locs : List Loc) (ls : Array Slot), k + n = x6.toNatClampNeg → va_P (dC, dI) vwCl (rw cI cZ a σ1) H → va_D A (rw cI cZ a σ1) → va_S A s.heap H locs → lv_has ls 9 [(0, .ref (a 0)), (1, .int x1), (2, .long x2), (4, .int x4), (5, .int x5), (6, .int x6), (7, .int x7), (8, .int (nI k))] → R = rf_greatest_95 σ x1 x2 x4 x5 x6 σ1 n k x7 → W p l e (headSpec wsX4_greatest ({ frames := 1, cells := 0, slots := 0, locals := 25 })).room s m [.ref (a 0), .int x1, .long x2, .int x4, .int x5, .int x6].toArray below meth c H locs 0 0 (MQ below (va_Qi (fun r σ9 => (r, σ9) = rf_greatest σ x1 x2 x4 x5 x6) (bMr dC dI cI cZ a A) A) [.ref (a 0), .int x1, .long x2, .int x4, .int x5, .int x6].toArray s 0 0 A) (F0 m 95 ls []) := by
                intro n
                induction n with
                | zero =>
                  intro k x7 σ1 H locs ls hkn hP hD hS hl hw
                  rw [rf_greatest_95_0] at hw
                  refine lv_iload hx hb dX4_greatest_95 (lv_at hl 7 rfl) ?_
                  refine lv_iload hx hb dX4_greatest_97 (lv_at hl 5 rfl) ?_
                  refine lv_icmp_ge (tgt := 134) hx hb dX4_greatest_99 (by decide) (fun c_99_3 => ?_) (fun c_99_3 => ?_)
                  · skip
                    refine lv_iload hx hb dX4_greatest_134 (lv_at hl 6 rfl) ?_
                    exact W.iret (v := x7) hx hb hr (fun t ht hW => ⟨⟨x7, σ1, rfl, hw.symm.trans hR, by rw [ht]; exact hP, va_K.moved hW.alike hK, hD⟩, hS.F ht⟩) hS.2.2 dX4_greatest_136
                  · skip
                    exact absurd (lpE hw6 hkn (by omega)) c_99_3
                | succ n ih =>
                  intro k x7 σ1 H locs ls hkn hP hD hS hl hw
                  rw [rf_greatest_95_s] at hw
                  have hkf : vp_in (nI k) 4 := vp_in_nI (by omega) (by decide)
                  refine lv_iload hx hb dX4_greatest_95 (lv_at hl 7 rfl) ?_
                  refine lv_iload hx hb dX4_greatest_97 (lv_at hl 5 rfl) ?_
                  refine lv_icmp_ge (tgt := 134) hx hb dX4_greatest_99 (by decide) (fun c_99_4 => ?_) (fun c_99_4 => ?_)
                  · skip
                    exact absurd c_99_4 (lpB hw6 hkn (by omega))
                  · skip
                    refine lv_aload_n hx hb dX4_greatest_102 rfl (lv_at hl 0 rfl) ?_
                    refine va_get (D := (dC, dI)) (ci := 4) (v := .ref (a 22)) (C := RX4) (T := TX4) (N := 23) hx hb hts (iwX4 _) hown hK hP 0 rfl rfl 22 (by decide) (hts _ (kc k_593)) (fun _ h9 => h9) rfl dX4_greatest_103 ?_
                    refine lv_iload hx hb dX4_greatest_106 (lv_at hl 7 rfl) ?_
                    refine va_iald (D := (dC, dI)) (f := σ1 22) hx hb hK hP 19 0 rfl rfl (i := nI k) hkf dX4_greatest_108 ?_
                    refine lv_iload hx hb dX4_greatest_109 (lv_at hl 6 rfl) ?_
                    obtain ⟨b_5, hb_5⟩ : ∃ z : Int32, z = (if (σ1 22 (nI k).toNatClampNeg) ≤ x7 then x7 else (σ1 22 (nI k).toNatClampNeg)) := ⟨_, rfl⟩
                    replace hw : R = (rf_greatest_95 σ x1 x2 x4 x5 x6 σ1 n (k + 1) b_5) := by subst hb_5; exact hw
                    have J_5 : ∀ (v9 : Int32) (ls : Array Slot), b_5 = v9 → lv_has ls 9 [(0, .ref (a 0)), (1, .int x1), (2, .long x2), (4, .int x4), (5, .int x5), (6, .int x6), (7, .int x7), (8, .int (nI k))] → W p l e (headSpec wsX4_greatest ({ frames := 1, cells := 0, slots := 0, locals := 25 })).room s m [.ref (a 0), .int x1, .long x2, .int x4, .int x5, .int x6].toArray below meth c H locs 0 0 (MQ below (va_Qi (fun r σ9 => (r, σ9) = rf_greatest σ x1 x2 x4 x5 x6) (bMr dC dI cI cZ a A) A) [.ref (a 0), .int x1, .long x2, .int x4, .int x5, .int x6].toArray s 0 0 A) (F0 m 126 ls [.int v9]) := by
                      intro v9 ls hv9 hl
                      subst hv9
                      refine lv_istore (lv' := [(7, .int b_5), (0, .ref (a 0)), (1, .int x1), (2, .long x2), (4, .int x4), (5, .int x5), (6, .int x6), (8, .int (nI k))]) hx hb dX4_greatest_126 hl (by decide) rfl (fun ls hl => ?_)
                      refine lv_iinc (v := (nI (k + 1))) (lv' := [(8, .int (nI (k + 1))), (7, .int b_5), (0, .ref (a 0)), (1, .int x1), (2, .long x2), (4, .int x4), (5, .int x5), (6, .int x6)]) hx hb dX4_greatest_128 hl (k := 7) rfl (nI_1 k) (by decide) rfl (fun ls hl => ?_)
                      refine lv_goto (tgt := 95) hx hb dX4_greatest_131 (by decide) ?_
                      exact ih (k + 1) b_5 σ1 H locs ls (by omega) hP hD hS (lv_sub hl [2, 3, 4, 5, 6, 7, 1, 0] rfl) hw
                    have hq_5 := hb_5
                    refine lv_icmp_le (tgt := 124) hx hb dX4_greatest_111 (by decide) (fun c_111_6 => ?_) (fun c_111_6 => ?_)
                    · skip
                      rw [if_pos c_111_6] at hq_5
                      refine lv_iload hx hb dX4_greatest_124 (lv_at hl 6 rfl) ?_
                      exact J_5 _ ls hq_5 (lv_sub hl [0, 1, 2, 3, 4, 5, 6, 7] rfl)
                    · skip
                      rw [if_neg c_111_6] at hq_5
                      refine lv_aload_n hx hb dX4_greatest_114 rfl (lv_at hl 0 rfl) ?_
                      refine va_get (D := (dC, dI)) (ci := 4) (v := .ref (a 22)) (C := RX4) (T := TX4) (N := 23) hx hb hts (iwX4 _) hown hK hP 0 rfl rfl 22 (by decide) (hts _ (kc k_593)) (fun _ h9 => h9) rfl dX4_greatest_115 ?_
                      refine lv_iload hx hb dX4_greatest_118 (lv_at hl 7 rfl) ?_
                      refine va_iald (D := (dC, dI)) (f := σ1 22) hx hb hK hP 19 0 rfl rfl (i := nI k) hkf dX4_greatest_120 ?_
                      refine lv_goto (tgt := 126) hx hb dX4_greatest_121 (by decide) ?_
                      exact J_5 _ ls hq_5 (lv_sub hl [0, 1, 2, 3, 4, 5, 6, 7] rfl)
              exact loop x6.toNatClampNeg 0 (0 : Int32) σ1 H locs ls (Nat.zero_add _) hP hD hS (lv_sub hl [2, 3, 4, 5, 6, 7, 1, 0] rfl) hw
            · skip
              exact absurd (lpE hn5 hkn (by omega)) c_30_2
          | succ n ih =>
            intro k σ1 H locs ls hkn hP hD hS hl hw
            rw [rf_greatest_26_s] at hw
            refine lv_iload hx hb dX4_greatest_26 (lv_at hl 6 rfl) ?_
            refine lv_iload hx hb dX4_greatest_28 (lv_at hl 4 rfl) ?_
            refine lv_icmp_ge (tgt := 89) hx hb dX4_greatest_30 (by decide) (fun c_30_7 => ?_) (fun c_30_7 => ?_)
            · skip
              exact absurd c_30_7 (lpB hn5 hkn (by omega))
            · skip
              refine lv_iload_n hx hb dX4_greatest_33 rfl (lv_at hl 1 rfl) ?_
              refine lv_iload hx hb dX4_greatest_34 (lv_at hl 6 rfl) ?_
              refine lv_iload hx hb dX4_greatest_36 (lv_at hl 4 rfl) ?_
              refine lv_iload hx hb dX4_greatest_38 (lv_at hl 5 rfl) ?_
              refine vp_callSi (W.runS (As := [.int x1, .int (nI k), .int x5, .int x6]) (rest := []) ⟨hx, hb, hml, hown, hts⟩ (m_X4_weekIn l x1 (nI k) x5 x6 k _ rfl hn5 (by omega) hn56 (wk_nz hw6 hw61 hw64)) (cwS 4 hts (gS k_764 k_765 k_24 k_766) rfl rfl rfl (by decide +kernel) ⟨Nat.le_of_ble_eq_true rfl, Nat.le_of_ble_eq_true rfl⟩) ps_0 rfl rfl hl.1 rfl (lv_room (Nat.le_of_ble_eq_true rfl)) dX4_greatest_40 ⟨Nat.le_of_ble_eq_true rfl, Nat.le_of_ble_eq_true rfl⟩) (fun r hrr => ?_)
              subst hrr
              have hf_8 : vp_in (rf_weekIn x1 (nI k) x5 x6) 4 := wk_in hc hn5 hn56 hw6 hw61 hw64 (by omega)
              refine lv_istore (lv' := [(8, .int (rf_weekIn x1 (nI k) x5 x6)), (0, .ref (a 0)), (1, .int x1), (2, .long x2), (4, .int x4), (5, .int x5), (6, .int x6), (7, .int (nI k))]) hx hb dX4_greatest_43 hl (by decide) rfl (fun ls hl => ?_)
              refine lv_iload hx hb dX4_greatest_45 (lv_at hl 0 rfl) ?_
              refine lv_iload hx hb dX4_greatest_47 (lv_at hl 4 rfl) ?_
              refine lv_iconst (v := 2) hx hb dX4_greatest_49 (by decide) ?_
              refine lv_iload hx hb dX4_greatest_50 (lv_at hl 7 rfl) ?_
              refine lv_imul hx hb dX4_greatest_52 ?_
              refine lv_ishr hx hb dX4_greatest_53 ?_
              refine lv_iconst (v := 3) hx hb dX4_greatest_54 (by decide) ?_
              refine lv_iand hx hb dX4_greatest_55 ?_
              refine lv_icmp_le (tgt := 61) hx hb dX4_greatest_56 (by decide) (fun c_56_9 => ?_) (fun c_56_9 => ?_)
              · skip
                rw [if_pos c_56_9] at hw
                refine lv_aload_n hx hb dX4_greatest_61 rfl (lv_at hl 1 rfl) ?_
                refine va_get (D := (dC, dI)) (ci := 4) (v := .ref (a 22)) (C := RX4) (T := TX4) (N := 23) hx hb hts (iwX4 _) hown hK hP 0 rfl rfl 22 (by decide) (hts _ (kc k_593)) (fun _ h9 => h9) rfl dX4_greatest_62 ?_
                refine lv_iload hx hb dX4_greatest_65 (lv_at hl 0 rfl) ?_
                refine lv_dup2_11 hx hb dX4_greatest_67 rfl rfl ?_
                refine va_iald (D := (dC, dI)) (f := σ1 22) hx hb hK hP 19 0 rfl rfl (i := rf_weekIn x1 (nI k) x5 x6) hf_8 dX4_greatest_68 ?_
                refine lv_lload_n hx hb dX4_greatest_69 rfl (lv_at hl 3 rfl) ?_
                refine lv_bipush (v := 8) hx hb dX4_greatest_70 (by decide) ?_
                refine lv_iload hx hb dX4_greatest_72 (lv_at hl 7 rfl) ?_
                refine lv_imul hx hb dX4_greatest_74 ?_
                refine lv_lshr hx hb dX4_greatest_75 rfl ?_
                refine lv_l2i hx hb dX4_greatest_76 rfl ?_
                refine lv_sipush (v := 255) hx hb dX4_greatest_77 (by decide) ?_
                refine lv_iand hx hb dX4_greatest_80 ?_
                refine lv_iadd hx hb dX4_greatest_81 ?_
                refine va_iast (D := (dC, dI)) (f := σ1 22) hx hb hK hP hD hS 19 0 rfl rfl (i := rf_weekIn x1 (nI k) x5 x6) (x := (σ1 22 (rf_weekIn x1 (nI k) x5 x6).toNatClampNeg) + (((x2 >>> (((8 : Int32) * (nI k)).toInt64 &&& 63)).toInt32) &&& (255 : Int32))) hf_8 dX4_greatest_82 (fun H locs hP hD hS => ?_)
                obtain ⟨σ_10, eσ_10⟩ : ∃ z : St, z = su σ1 22 ((rf_weekIn x1 (nI k) x5 x6).toNatClampNeg) ((σ1 22 (rf_weekIn x1 (nI k) x5 x6).toNatClampNeg) + (((x2 >>> (((8 : Int32) * (nI k)).toInt64 &&& 63)).toInt32) &&& (255 : Int32))) := ⟨_, rfl⟩
                replace hP := P_rw_22 hP
                replace hD := D_rw_22 hD
                rw [← eσ_10] at hP hD
                replace hw : R = (rf_greatest_26 σ x1 x2 x4 x5 x6 σ_10 n (k + 1)) := by subst eσ_10; exact hw
                refine lv_iinc (v := (nI (k + 1))) (lv' := [(7, .int (nI (k + 1))), (8, .int (rf_weekIn x1 (nI k) x5 x6)), (0, .ref (a 0)), (1, .int x1), (2, .long x2), (4, .int x4), (5, .int x5), (6, .int x6)]) hx hb dX4_greatest_83 hl (k := 7) rfl (nI_1 k) (by decide) rfl (fun ls hl => ?_)
                refine lv_goto (tgt := 26) hx hb dX4_greatest_86 (by decide) ?_
                exact ih (k + 1) σ_10 H locs ls (by omega) hP hD hS (lv_sub hl [2, 3, 4, 5, 6, 7, 0] rfl) hw
              · skip
                rw [if_neg c_56_9] at hw
                refine lv_iconst (v := -1) hx hb dX4_greatest_59 (by decide) ?_
                exact W.iret (v := (-1 : Int32)) hx hb hr (fun t ht hW => ⟨⟨(-1 : Int32), σ1, rfl, hw.symm.trans hR, by rw [ht]; exact hP, va_K.moved hW.alike hK, hD⟩, hS.F ht⟩) hS.2.2 dX4_greatest_60
        exact loop x5.toNatClampNeg 0 σ1 H locs ls (Nat.zero_add _) hP hD hS (lv_sub hl [1, 2, 3, 4, 5, 6, 0] rfl) hw
      · skip
        exact absurd (lpE ht_4 hkn (by omega)) c_6_1
    | succ n ih =>
      intro k σ1 H locs ls hkn hP hD hS hl hw
      rw [rf_greatest_3_s] at hw
      have hkf : vp_in (nI k) 4 := vp_in_nI (by omega) (by decide)
      refine lv_iload hx hb dX4_greatest_3 (lv_at hl 6 rfl) ?_
      refine lv_iconst (v := 4) hx hb dX4_greatest_5 (by decide) ?_
      refine lv_icmp_ge (tgt := 23) hx hb dX4_greatest_6 (by decide) (fun c_6_11 => ?_) (fun c_6_11 => ?_)
      · skip
        exact absurd c_6_11 (lpB ht_4 hkn (by omega))
      · skip
        refine lv_aload_n hx hb dX4_greatest_9 rfl (lv_at hl 0 rfl) ?_
        refine va_get (D := (dC, dI)) (ci := 4) (v := .ref (a 22)) (C := RX4) (T := TX4) (N := 23) hx hb hts (iwX4 _) hown hK hP 0 rfl rfl 22 (by decide) (hts _ (kc k_593)) (fun _ h9 => h9) rfl dX4_greatest_10 ?_
        refine lv_iload hx hb dX4_greatest_13 (lv_at hl 6 rfl) ?_
        refine lv_iconst (v := 0) hx hb dX4_greatest_15 (by decide) ?_
        refine va_iast (D := (dC, dI)) (f := σ1 22) hx hb hK hP hD hS 19 0 rfl rfl (i := nI k) (x := (0 : Int32)) hkf dX4_greatest_16 (fun H locs hP hD hS => ?_)
        obtain ⟨σ_12, eσ_12⟩ : ∃ z : St, z = su σ1 22 ((nI k).toNatClampNeg) (0 : Int32) := ⟨_, rfl⟩
        replace hP := P_rw_22 hP
        replace hD := D_rw_22 hD
        rw [← eσ_12] at hP hD
        replace hw : R = (rf_greatest_3 σ x1 x2 x4 x5 x6 σ_12 n (k + 1)) := by subst eσ_12; exact hw
        refine lv_iinc (v := (nI (k + 1))) (lv' := [(7, .int (nI (k + 1))), (0, .ref (a 0)), (1, .int x1), (2, .long x2), (4, .int x4), (5, .int x5), (6, .int x6)]) hx hb dX4_greatest_17 hl (k := 6) rfl (nI_1 k) (by decide) rfl (fun ls hl => ?_)
        refine lv_goto (tgt := 3) hx hb dX4_greatest_20 (by decide) ?_
        exact ih (k + 1) σ_12 H locs ls (by omega) hP hD hS (lv_sub hl [1, 2, 3, 4, 5, 6, 0] rfl) hw
  exact loop 4 0 σ H locs ls (Nat.zero_add _) hP hD hS (lv_sub hl [1, 2, 3, 4, 5, 6, 0] rfl) hw
set_option maxHeartbeats 4000000 in
set_option maxRecDepth 100000 in
theorem m_X4_plan (l : Launch) (dC : Nat → ClassId) (dI : Nat → Nat → Nat) (cI cZ : ClassId) (a : Nat → Nat) (sz : Nat) (σ : St) (x1 : Int64) (x3 : Int32) (x4 : Int32) (x5 : Int32) (hiv : IVr σ) : Met l yX4_plan wsX4_plan ({ frames := 2, cells := 0, slots := 0, locals := 53 }) (pMr dC dI cI cZ a sz σ [.ref (a 0), .long x1, .int x3, .int x4, .int x5]) (va_Qi (fun r σ9 => (r, σ9) = rf_plan σ x1 x3 x4 x5) (bMr dC dI cI cZ a (va_A (rw cI cZ a σ) sz)) (va_A (rw cI cZ a σ) sz)) 0 0 (va_A (rw cI cZ a σ) sz) := by
  refine Met.ofW (cc := cX4_plan) (maxL := 11) (ret := (some .int)) (by decide) rfl ?_
  intro p e s m args below meth c s₁ B hml hv
  obtain ⟨rfl, hsz, hP, hK, hD0⟩ := hv
  have hx := B.exec
  have hb := B.bytes
  have hr := B.returns
  have hts := atoms_spec (ws := wsX4_plan) B.pre
  have hown : s.vm.findClass RX4 = some m.cls := findClass_of_methodNamed B.named
  have hlocks := B.notSynchronized
  subst hsz
  have hD := hD0.self (sz := s.heap.size)
  generalize hAe : va_A (rw cI cZ a σ) s.heap.size = A at hD ⊢
  have hA : ∀ q : Nat, s.heap.size ≤ q → A q := fun q h => by rw [← hAe]; exact Or.inr h
  clear hAe hD0
  obtain ⟨H, hHe⟩ : ∃ z, z = s.heap := ⟨_, rfl⟩
  obtain ⟨locs, hLe⟩ : ∃ z : List Loc, z = [] := ⟨_, rfl⟩
  have hS : va_S A s.heap H locs := by rw [hHe, hLe]; exact va_S.rf
  have hP : va_P (dC, dI) vwCl (rw cI cZ a σ) H := by rw [hHe]; exact hP
  refine W_ofH hHe hLe ?_
  clear hHe hLe
  have hl := lv_entry ([.ref (a 0), .long x1, .int x3, .int x4, .int x5]) (n := 11) (Nat.le_of_ble_eq_true rfl)
  rw [lg_entry_eq]
  generalize (lg_sl ([.ref (a 0), .long x1, .int x3, .int x4, .int x5]) ++ List.replicate (11 - (lg_sl ([.ref (a 0), .long x1, .int x3, .int x4, .int x5])).length) Slot.unset).toArray = ls at hl ⊢
  have hl : lv_has ls 11 [(0, .ref (a 0)), (1, .long x1), (3, .int x3), (4, .int x4), (5, .int x5)] := hl
  obtain ⟨R, hR⟩ : ∃ z, z = rf_plan σ x1 x3 x4 x5 := ⟨_, rfl⟩
  have hw := hR
  unfold rf_plan at hw
  refine lv_aload_n hx hb dX4_plan_0 rfl (lv_at hl 0 rfl) ?_
  refine lv_iload hx hb dX4_plan_1 (lv_at hl 3 rfl) ?_
  refine lv_iconst (v := 0) hx hb dX4_plan_3 (by decide) ?_
  refine lv_bipush (v := 6) hx hb dX4_plan_4 (by decide) ?_
  refine vp_callSi (W.runS (As := [.int x4, .int (0 : Int32), .int (6 : Int32)]) (rest := [.ref (a 0)]) ⟨hx, hb, hml, hown, hts⟩ (m_X4_in l x4 (0 : Int32) (6 : Int32)) (cwS 3 hts (gS k_658 k_659 k_24 k_660) rfl rfl rfl (by decide +kernel) ⟨Nat.le_of_ble_eq_true rfl, Nat.le_of_ble_eq_true rfl⟩) ps_0 rfl rfl hl.1 rfl (lv_room (Nat.le_of_ble_eq_true rfl)) dX4_plan_6 ⟨Nat.le_of_ble_eq_true rfl, Nat.le_of_ble_eq_true rfl⟩) (fun r hrr => ?_)
  subst hrr
  obtain ⟨b_1, hb_1⟩ : ∃ z : Int32, z = (if (rf_in x4 (0 : Int32) (6 : Int32)) = 0 then (1 : Int32) else (if (rf_in x5 (1 : Int32) (4 : Int32)) = 0 then (1 : Int32) else (0 : Int32))) := ⟨_, rfl⟩
  replace hw : R = (let σ_2 : St := (rf_throwing σ b_1 (0 : Int32) (0 : Int32) (0 : Int32)).2; if ((rf_throwing σ b_1 (0 : Int32) (0 : Int32) (0 : Int32)).1) = 0 then (let b_9 : Int32 := rf_plan_44 x5 x4.toNatClampNeg 0 (1 : Int32); rf_plan_74 σ x1 x3 x4 x5 σ_2 b_9.toNatClampNeg 0 b_9 (-1 : Int32) (1000000 : Int32)) else ((0 : Int32), σ_2)) := by subst hb_1; exact hw
  have J_1 : ∀ (v9 : Int32) (ls : Array Slot), b_1 = v9 → lv_has ls 11 [(0, .ref (a 0)), (1, .long x1), (3, .int x3), (4, .int x4), (5, .int x5)] → W p l e (headSpec wsX4_plan ({ frames := 2, cells := 0, slots := 0, locals := 53 })).room s m [.ref (a 0), .long x1, .int x3, .int x4, .int x5].toArray below meth c H locs 0 0 (MQ below (va_Qi (fun r σ9 => (r, σ9) = rf_plan σ x1 x3 x4 x5) (bMr dC dI cI cZ a A) A) [.ref (a 0), .long x1, .int x3, .int x4, .int x5].toArray s 0 0 A) (F0 m 27 ls [.int v9, .ref (a 0)]) := by
    intro v9 ls hv9 hl
    subst hv9
    refine lv_iconst (v := 0) hx hb dX4_plan_27 (by decide) ?_
    refine lv_iconst (v := 0) hx hb dX4_plan_28 (by decide) ?_
    refine lv_iconst (v := 0) hx hb dX4_plan_29 (by decide) ?_
    have hFc := fr_all hD hS hA
    refine va_calli (va_runV (As := [.int b_1, .int (0 : Int32), .int (0 : Int32), .int (0 : Int32)]) (rest := []) ⟨hx, hb, hml, hown, hts⟩ (m_X4_throwing l dC dI cI cZ a H.size σ b_1 (0 : Int32) (0 : Int32) (0 : Int32)) (cwV 4 hts (gV k_650 k_652 k_11 k_24 k_653) rfl rfl rfl (by decide +kernel) ⟨Nat.le_of_ble_eq_true rfl, Nat.le_of_ble_eq_true rfl⟩) (pv_mr (q := (RX4, TX4, 23)) (q0 := 0) (ci := 4) hK hP hD rfl rfl) rfl rfl hl.1 rfl (lv_room (Nat.le_of_ble_eq_true rfl)) dX4_plan_30 ⟨Nat.le_of_ble_eq_true rfl, Nat.le_of_ble_eq_true rfl⟩) hS (fun q _ h => hFc q h) hFc (fun r σ_2 t H1 locs ht hvm hw9 hB hz1 hk1 hS => ?_)
    obtain ⟨hP, hK1, hD1⟩ := hB
    rw [ht] at hP
    have hD := hD1.weaken (fun _ _ _ h => hFc _ h)
    clear hFc hD1 hK1
    obtain ⟨rfl, eσ_2⟩ : r = (rf_throwing σ b_1 (0 : Int32) (0 : Int32) (0 : Int32)).1 ∧ σ_2 = (rf_throwing σ b_1 (0 : Int32) (0 : Int32) (0 : Int32)).2 := ⟨congrArg Prod.fst hw9, congrArg Prod.snd hw9⟩
    clear hw9
    replace hw : R = (if ((rf_throwing σ b_1 (0 : Int32) (0 : Int32) (0 : Int32)).1) = 0 then (let b_9 : Int32 := rf_plan_44 x5 x4.toNatClampNeg 0 (1 : Int32); rf_plan_74 σ x1 x3 x4 x5 σ_2 b_9.toNatClampNeg 0 b_9 (-1 : Int32) (1000000 : Int32)) else ((0 : Int32), σ_2)) := by subst eσ_2; exact hw
    generalize H1 = H at hP hS ⊢
    have hiv_3 : IVr σ_2 := by rw [eσ_2]; exact ir_thr hiv _ _ _ _
    refine lv_if_eq (tgt := 38) hx hb dX4_plan_33 (by decide) (fun c_33_4 => ?_) (fun c_33_4 => ?_)
    · skip
      rw [if_pos c_33_4] at hw
      obtain ⟨z0_5, z1_6, z2_7, z3_8⟩ := thr0 c_33_4
      obtain ⟨hn4, hn46, hn5, hn51, hn54⟩ := bd_plan hb_1 z0_5
      refine lv_iconst (v := 1) hx hb dX4_plan_38 (by decide) ?_
      refine lv_istore (lv' := [(6, .int (1 : Int32)), (0, .ref (a 0)), (1, .long x1), (3, .int x3), (4, .int x4), (5, .int x5)]) hx hb dX4_plan_39 hl (by decide) rfl (fun ls hl => ?_)
      refine lv_iconst (v := 0) hx hb dX4_plan_41 (by decide) ?_
      refine lv_istore (lv' := [(7, .int (0 : Int32)), (6, .int (1 : Int32)), (0, .ref (a 0)), (1, .long x1), (3, .int x3), (4, .int x4), (5, .int x5)]) hx hb dX4_plan_42 hl (by decide) rfl (fun ls hl => ?_)
      obtain ⟨b_9, hb_9⟩ : ∃ z : Int32, z = rf_plan_44 x5 x4.toNatClampNeg 0 (1 : Int32) := ⟨_, rfl⟩
      replace hw : R = (rf_plan_74 σ x1 x3 x4 x5 σ_2 b_9.toNatClampNeg 0 b_9 (-1 : Int32) (1000000 : Int32)) := by subst hb_9; exact hw
      have J_9 : ∀ (v9 : Int32) (ls : Array Slot), b_9 = v9 → lv_has ls 11 [(0, .ref (a 0)), (1, .long x1), (3, .int x3), (4, .int x4), (5, .int x5), (6, .int v9)] → W p l e (headSpec wsX4_plan ({ frames := 2, cells := 0, slots := 0, locals := 53 })).room s m [.ref (a 0), .long x1, .int x3, .int x4, .int x5].toArray below meth c H locs 0 0 (MQ below (va_Qi (fun r σ9 => (r, σ9) = rf_plan σ x1 x3 x4 x5) (bMr dC dI cI cZ a A) A) [.ref (a 0), .long x1, .int x3, .int x4, .int x5].toArray s 0 0 A) (F0 m 64 ls []) := by
        intro v9 ls hv9 hl
        subst hv9
        refine lv_iconst (v := -1) hx hb dX4_plan_64 (by decide) ?_
        refine lv_istore (lv' := [(7, .int (-1 : Int32)), (0, .ref (a 0)), (1, .long x1), (3, .int x3), (4, .int x4), (5, .int x5), (6, .int b_9)]) hx hb dX4_plan_65 hl (by decide) rfl (fun ls hl => ?_)
        refine lv_ldc (own := RX4) (v := 1000000) hx hb hown (hts _ (kc k_743)) dX4_plan_67 ?_
        refine lv_istore (lv' := [(8, .int (1000000 : Int32)), (7, .int (-1 : Int32)), (0, .ref (a 0)), (1, .long x1), (3, .int x3), (4, .int x4), (5, .int x5), (6, .int b_9)]) hx hb dX4_plan_69 hl (by decide) rfl (fun ls hl => ?_)
        refine lv_iconst (v := 0) hx hb dX4_plan_71 (by decide) ?_
        refine lv_istore (lv' := [(9, .int (0 : Int32)), (8, .int (1000000 : Int32)), (7, .int (-1 : Int32)), (0, .ref (a 0)), (1, .long x1), (3, .int x3), (4, .int x4), (5, .int x5), (6, .int b_9)]) hx hb dX4_plan_72 hl (by decide) rfl (fun ls hl => ?_)
        have loop : ∀ (n k : Nat) (x6 : Int32) (x7 : Int32) (x8 : Int32) (σ1 : St) (H : Heap) (locs : List Loc) (ls : Array Slot), k + n = x6.toNatClampNeg → x6 = nI x6.toNatClampNeg → x6.toNatClampNeg ≤ 5000 → va_P (dC, dI) vwCl (rw cI cZ a σ1) H → va_D A (rw cI cZ a σ1) → va_S A s.heap H locs → lv_has ls 11 [(0, .ref (a 0)), (1, .long x1), (3, .int x3), (4, .int x4), (5, .int x5), (6, .int x6), (7, .int x7), (8, .int x8), (9, .int (nI k))] → R = rf_plan_74 σ x1 x3 x4 x5 σ1 n k x6 x7 x8 → W p l e (headSpec wsX4_plan ({ frames := 2, cells := 0, slots := 0, locals := 53 })).room s m [.ref (a 0), .long x1, .int x3, .int x4, .int x5].toArray below meth c H locs 0 0 (MQ below (va_Qi (fun r σ9 => (r, σ9) = rf_plan σ x1 x3 x4 x5) (bMr dC dI cI cZ a A) A) [.ref (a 0), .long x1, .int x3, .int x4, .int x5].toArray s 0 0 A) (F0 m 74 ls []) := by
          intro n
          induction n with
          | zero =>
            intro k x6 x7 x8 σ1 H locs ls hkn hAll hA4 hP hD hS hl hw
            rw [rf_plan_74_0] at hw
            refine lv_iload hx hb dX4_plan_74 (lv_at hl 8 rfl) ?_
            refine lv_iload hx hb dX4_plan_76 (lv_at hl 5 rfl) ?_
            refine lv_icmp_ge (tgt := 121) hx hb dX4_plan_78 (by decide) (fun c_78_10 => ?_) (fun c_78_10 => ?_)
            · skip
              refine lv_aload_n hx hb dX4_plan_121 rfl (lv_at hl 0 rfl) ?_
              refine lv_iload hx hb dX4_plan_122 (lv_at hl 3 rfl) ?_
              refine va_put (D := (dC, dI)) (ci := 4) (v := .int x4) (ty := .int) (C := RX4) (T := TX4) (N := 23) hx hb hts (iwX4 _) tyX4 tyX4_ok nmX4 hown hK hP hD hS 0 rfl rfl 20 (by decide) (hts _ (kc k_591)) (fun _ h9 => h9) rfl (by decide +kernel) rfl rfl (Nat.le_of_ble_eq_true rfl) dX4_plan_124 (fun H locs hP hD hS => ?_)
              obtain ⟨σ_11, eσ_11⟩ : ∃ z : St, z = su σ1 0 20 x4 := ⟨_, rfl⟩
              replace hP := P_rw_0_20 hP
              replace hD := D_rw_0_20 hD
              rw [← eσ_11] at hP hD
              replace hw : R = (rf_plan_130 σ x1 x3 x4 x5 σ_11 x4.toNatClampNeg 0 x7 x8) := by subst eσ_11; exact hw
              refine lv_iconst (v := 0) hx hb dX4_plan_127 (by decide) ?_
              refine lv_istore (lv' := [(9, .int (0 : Int32)), (0, .ref (a 0)), (1, .long x1), (3, .int x3), (4, .int x4), (5, .int x5), (6, .int x6), (7, .int x7), (8, .int x8)]) hx hb dX4_plan_128 hl (by decide) rfl (fun ls hl => ?_)
              have loop : ∀ (n k : Nat) (x7 : Int32) (x8 : Int32) (σ1 : St) (H : Heap) (locs : List Loc) (ls : Array Slot), k + n = x4.toNatClampNeg → va_P (dC, dI) vwCl (rw cI cZ a σ1) H → va_D A (rw cI cZ a σ1) → va_S A s.heap H locs → lv_has ls 11 [(0, .ref (a 0)), (1, .long x1), (3, .int x3), (4, .int x4), (5, .int x5), (7, .int x7), (8, .int x8), (9, .int (nI k))] → R = rf_plan_130 σ x1 x3 x4 x5 σ1 n k x7 x8 → W p l e (headSpec wsX4_plan ({ frames := 2, cells := 0, slots := 0, locals := 53 })).room s m [.ref (a 0), .long x1, .int x3, .int x4, .int x5].toArray below meth c H locs 0 0 (MQ below (va_Qi (fun r σ9 => (r, σ9) = rf_plan σ x1 x3 x4 x5) (bMr dC dI cI cZ a A) A) [.ref (a 0), .long x1, .int x3, .int x4, .int x5].toArray s 0 0 A) (F0 m 130 ls []) := by
                intro n
                induction n with
                | zero =>
                  intro k x7 x8 σ1 H locs ls hkn hP hD hS hl hw
                  rw [rf_plan_130_0] at hw
                  refine lv_iload hx hb dX4_plan_130 (lv_at hl 7 rfl) ?_
                  refine lv_iload hx hb dX4_plan_132 (lv_at hl 3 rfl) ?_
                  refine lv_icmp_ge (tgt := 161) hx hb dX4_plan_134 (by decide) (fun c_134_12 => ?_) (fun c_134_12 => ?_)
                  · skip
                    refine lv_iload hx hb dX4_plan_161 (lv_at hl 6 rfl) ?_
                    exact W.iret (v := x8) hx hb hr (fun t ht hW => ⟨⟨x8, σ1, rfl, hw.symm.trans hR, by rw [ht]; exact hP, va_K.moved hW.alike hK, hD⟩, hS.F ht⟩) hS.2.2 dX4_plan_163
                  · skip
                    exact absurd (lpE hn4 hkn (by omega)) c_134_12
                | succ n ih =>
                  intro k x7 x8 σ1 H locs ls hkn hP hD hS hl hw
                  rw [rf_plan_130_s] at hw
                  have hkf : vp_in (nI k) 6 := vp_in_nI (by omega) (by decide)
                  refine lv_iload hx hb dX4_plan_130 (lv_at hl 7 rfl) ?_
                  refine lv_iload hx hb dX4_plan_132 (lv_at hl 3 rfl) ?_
                  refine lv_icmp_ge (tgt := 161) hx hb dX4_plan_134 (by decide) (fun c_134_13 => ?_) (fun c_134_13 => ?_)
                  · skip
                    exact absurd c_134_13 (lpB hn4 hkn (by omega))
                  · skip
                    refine lv_aload_n hx hb dX4_plan_137 rfl (lv_at hl 0 rfl) ?_
                    refine va_get (D := (dC, dI)) (ci := 4) (v := .ref (a 21)) (C := RX4) (T := TX4) (N := 23) hx hb hts (iwX4 _) hown hK hP 0 rfl rfl 21 (by decide) (hts _ (kc k_592)) (fun _ h9 => h9) rfl dX4_plan_138 ?_
                    refine lv_iload hx hb dX4_plan_141 (lv_at hl 7 rfl) ?_
                    refine lv_iload hx hb dX4_plan_143 (lv_at hl 5 rfl) ?_
                    refine lv_iload hx hb dX4_plan_145 (lv_at hl 7 rfl) ?_
                    refine lv_iload hx hb dX4_plan_147 (lv_at hl 3 rfl) ?_
                    refine lv_iload hx hb dX4_plan_149 (lv_at hl 4 rfl) ?_
                    refine vp_callSi (W.runS (As := [.int x7, .int (nI k), .int x4, .int x5]) (rest := [.int (nI k), .ref (a 21)]) ⟨hx, hb, hml, hown, hts⟩ (m_X4_weekIn l x7 (nI k) x4 x5 k _ rfl hn4 (by omega) hn46 (wk_nz hn5 hn51 hn54)) (cwS 4 hts (gS k_764 k_765 k_24 k_766) rfl rfl rfl (by decide +kernel) ⟨Nat.le_of_ble_eq_true rfl, Nat.le_of_ble_eq_true rfl⟩) ps_0 rfl rfl hl.1 rfl (lv_room (Nat.le_of_ble_eq_true rfl)) dX4_plan_151 ⟨Nat.le_of_ble_eq_true rfl, Nat.le_of_ble_eq_true rfl⟩) (fun r hrr => ?_)
                    subst hrr
                    refine va_iast (D := (dC, dI)) (f := σ1 21) hx hb hK hP hD hS 18 0 rfl rfl (i := nI k) (x := rf_weekIn x7 (nI k) x4 x5) hkf dX4_plan_154 (fun H locs hP hD hS => ?_)
                    obtain ⟨σ_14, eσ_14⟩ : ∃ z : St, z = su σ1 21 ((nI k).toNatClampNeg) (rf_weekIn x7 (nI k) x4 x5) := ⟨_, rfl⟩
                    replace hP := P_rw_21 hP
                    replace hD := D_rw_21 hD
                    rw [← eσ_14] at hP hD
                    replace hw : R = (rf_plan_130 σ x1 x3 x4 x5 σ_14 n (k + 1) x7 x8) := by subst eσ_14; exact hw
                    refine lv_iinc (v := (nI (k + 1))) (lv' := [(9, .int (nI (k + 1))), (0, .ref (a 0)), (1, .long x1), (3, .int x3), (4, .int x4), (5, .int x5), (7, .int x7), (8, .int x8)]) hx hb dX4_plan_155 hl (k := 7) rfl (nI_1 k) (by decide) rfl (fun ls hl => ?_)
                    refine lv_goto (tgt := 130) hx hb dX4_plan_158 (by decide) ?_
                    exact ih (k + 1) x7 x8 σ_14 H locs ls (by omega) hP hD hS (lv_sub hl [1, 2, 3, 4, 5, 6, 7, 0] rfl) hw
              exact loop x4.toNatClampNeg 0 x7 x8 σ_11 H locs ls (Nat.zero_add _) hP hD hS (lv_sub hl [1, 2, 3, 4, 5, 7, 8, 0] rfl) hw
            · skip
              exact absurd (lpE hAll hkn (by omega)) c_78_10
          | succ n ih =>
            intro k x6 x7 x8 σ1 H locs ls hkn hAll hA4 hP hD hS hl hw
            rw [rf_plan_74_s] at hw
            refine lv_iload hx hb dX4_plan_74 (lv_at hl 8 rfl) ?_
            refine lv_iload hx hb dX4_plan_76 (lv_at hl 5 rfl) ?_
            refine lv_icmp_ge (tgt := 121) hx hb dX4_plan_78 (by decide) (fun c_78_15 => ?_) (fun c_78_15 => ?_)
            · skip
              exact absurd c_78_15 (lpB hAll hkn (by omega))
            · skip
              refine lv_aload_n hx hb dX4_plan_81 rfl (lv_at hl 0 rfl) ?_
              refine lv_iload hx hb dX4_plan_82 (lv_at hl 8 rfl) ?_
              refine lv_lload_n hx hb dX4_plan_84 rfl (lv_at hl 1 rfl) ?_
              refine lv_iload_n hx hb dX4_plan_85 rfl (lv_at hl 2 rfl) ?_
              refine lv_iload hx hb dX4_plan_86 (lv_at hl 3 rfl) ?_
              refine lv_iload hx hb dX4_plan_88 (lv_at hl 4 rfl) ?_
              have hFc := fr_all hD hS hA
              refine va_calli (va_runV (As := [.int (nI k), .long x1, .int x3, .int x4, .int x5]) (rest := []) ⟨hx, hb, hml, hown, hts⟩ (m_X4_greatest l dC dI cI cZ a H.size σ1 (nI k) x1 x3 x4 x5 (pl_k hA4 hkn) hn4 hn46 hn5 hn51 hn54) (cwV 5 hts (gV k_760 k_762 k_18 k_24 k_763) rfl rfl rfl (by decide +kernel) ⟨Nat.le_of_ble_eq_true rfl, Nat.le_of_ble_eq_true rfl⟩) (pv_mr (q := (RX4, TX4, 23)) (q0 := 0) (ci := 4) hK hP hD rfl rfl) rfl rfl hl.1 rfl (lv_room (Nat.le_of_ble_eq_true rfl)) dX4_plan_90 ⟨Nat.le_of_ble_eq_true rfl, Nat.le_of_ble_eq_true rfl⟩) hS (fun q _ h => hFc q h) hFc (fun r σ_16 t H1 locs ht hvm hw9 hB hz1 hk1 hS => ?_)
              obtain ⟨hP, hK1, hD1⟩ := hB
              rw [ht] at hP
              have hD := hD1.weaken (fun _ _ _ h => hFc _ h)
              clear hFc hD1 hK1
              obtain ⟨rfl, eσ_16⟩ : r = (rf_greatest σ1 (nI k) x1 x3 x4 x5).1 ∧ σ_16 = (rf_greatest σ1 (nI k) x1 x3 x4 x5).2 := ⟨congrArg Prod.fst hw9, congrArg Prod.snd hw9⟩
              clear hw9
              replace hw : R = (if ((rf_greatest σ1 (nI k) x1 x3 x4 x5).1) < 0 then (rf_plan_74 σ x1 x3 x4 x5 σ_16 n (k + 1) x6 x7 x8) else (if x8 ≤ ((rf_greatest σ1 (nI k) x1 x3 x4 x5).1) then (rf_plan_74 σ x1 x3 x4 x5 σ_16 n (k + 1) x6 x7 x8) else (rf_plan_74 σ x1 x3 x4 x5 σ_16 n (k + 1) x6 (nI k) ((rf_greatest σ1 (nI k) x1 x3 x4 x5).1)))) := by subst eσ_16; exact hw
              generalize H1 = H at hP hS ⊢
              refine lv_istore (lv' := [(10, .int ((rf_greatest σ1 (nI k) x1 x3 x4 x5).1)), (0, .ref (a 0)), (1, .long x1), (3, .int x3), (4, .int x4), (5, .int x5), (6, .int x6), (7, .int x7), (8, .int x8), (9, .int (nI k))]) hx hb dX4_plan_93 hl (by decide) rfl (fun ls hl => ?_)
              refine lv_iload hx hb dX4_plan_95 (lv_at hl 0 rfl) ?_
              refine lv_if_lt (tgt := 115) hx hb dX4_plan_97 (by decide) (fun c_97_17 => ?_) (fun c_97_17 => ?_)
              · skip
                rw [if_pos c_97_17] at hw
                refine lv_iinc (v := (nI (k + 1))) (lv' := [(9, .int (nI (k + 1))), (10, .int ((rf_greatest σ1 (nI k) x1 x3 x4 x5).1)), (0, .ref (a 0)), (1, .long x1), (3, .int x3), (4, .int x4), (5, .int x5), (6, .int x6), (7, .int x7), (8, .int x8)]) hx hb dX4_plan_115 hl (k := 9) rfl (nI_1 k) (by decide) rfl (fun ls hl => ?_)
                refine lv_goto (tgt := 74) hx hb dX4_plan_118 (by decide) ?_
                exact ih (k + 1) x6 x7 x8 σ_16 H locs ls (by omega) hAll hA4 hP hD hS (lv_sub hl [2, 3, 4, 5, 6, 7, 8, 9, 0] rfl) hw
              · skip
                rw [if_neg c_97_17] at hw
                refine lv_iload hx hb dX4_plan_100 (lv_at hl 0 rfl) ?_
                refine lv_iload hx hb dX4_plan_102 (lv_at hl 8 rfl) ?_
                refine lv_icmp_ge (tgt := 115) hx hb dX4_plan_104 (by decide) (fun c_104_18 => ?_) (fun c_104_18 => ?_)
                · skip
                  rw [if_pos c_104_18] at hw
                  refine lv_iinc (v := (nI (k + 1))) (lv' := [(9, .int (nI (k + 1))), (10, .int ((rf_greatest σ1 (nI k) x1 x3 x4 x5).1)), (0, .ref (a 0)), (1, .long x1), (3, .int x3), (4, .int x4), (5, .int x5), (6, .int x6), (7, .int x7), (8, .int x8)]) hx hb dX4_plan_115 hl (k := 9) rfl (nI_1 k) (by decide) rfl (fun ls hl => ?_)
                  refine lv_goto (tgt := 74) hx hb dX4_plan_118 (by decide) ?_
                  exact ih (k + 1) x6 x7 x8 σ_16 H locs ls (by omega) hAll hA4 hP hD hS (lv_sub hl [2, 3, 4, 5, 6, 7, 8, 9, 0] rfl) hw
                · skip
                  rw [if_neg c_104_18] at hw
                  refine lv_iload hx hb dX4_plan_107 (lv_at hl 9 rfl) ?_
                  refine lv_istore (lv' := [(7, .int (nI k)), (10, .int ((rf_greatest σ1 (nI k) x1 x3 x4 x5).1)), (0, .ref (a 0)), (1, .long x1), (3, .int x3), (4, .int x4), (5, .int x5), (6, .int x6), (8, .int x8), (9, .int (nI k))]) hx hb dX4_plan_109 hl (by decide) rfl (fun ls hl => ?_)
                  refine lv_iload hx hb dX4_plan_111 (lv_at hl 1 rfl) ?_
                  refine lv_istore (lv' := [(8, .int ((rf_greatest σ1 (nI k) x1 x3 x4 x5).1)), (7, .int (nI k)), (10, .int ((rf_greatest σ1 (nI k) x1 x3 x4 x5).1)), (0, .ref (a 0)), (1, .long x1), (3, .int x3), (4, .int x4), (5, .int x5), (6, .int x6), (9, .int (nI k))]) hx hb dX4_plan_113 hl (by decide) rfl (fun ls hl => ?_)
                  refine lv_iinc (v := (nI (k + 1))) (lv' := [(9, .int (nI (k + 1))), (8, .int ((rf_greatest σ1 (nI k) x1 x3 x4 x5).1)), (7, .int (nI k)), (10, .int ((rf_greatest σ1 (nI k) x1 x3 x4 x5).1)), (0, .ref (a 0)), (1, .long x1), (3, .int x3), (4, .int x4), (5, .int x5), (6, .int x6)]) hx hb dX4_plan_115 hl (k := 9) rfl (nI_1 k) (by decide) rfl (fun ls hl => ?_)
                  refine lv_goto (tgt := 74) hx hb dX4_plan_118 (by decide) ?_
                  exact ih (k + 1) x6 (nI k) ((rf_greatest σ1 (nI k) x1 x3 x4 x5).1) σ_16 H locs ls (by omega) hAll hA4 hP hD hS (lv_sub hl [4, 5, 6, 7, 8, 9, 2, 1, 0] rfl) hw
        exact loop b_9.toNatClampNeg 0 b_9 (-1 : Int32) (1000000 : Int32) σ_2 H locs ls (Nat.zero_add _) (pl_all hn46 hn5 hn54 hb_9).1 (pl_all hn46 hn5 hn54 hb_9).2 hP hD hS (lv_sub hl [3, 4, 5, 6, 7, 8, 2, 1, 0] rfl) hw
      have loop : ∀ (n k : Nat) (x6 : Int32) (ls : Array Slot), k + n = x4.toNatClampNeg → lv_has ls 11 [(0, .ref (a 0)), (1, .long x1), (3, .int x3), (4, .int x4), (5, .int x5), (6, .int x6), (7, .int (nI k))] → b_9 = rf_plan_44 x5 n k x6 → W p l e (headSpec wsX4_plan ({ frames := 2, cells := 0, slots := 0, locals := 53 })).room s m [.ref (a 0), .long x1, .int x3, .int x4, .int x5].toArray below meth c H locs 0 0 (MQ below (va_Qi (fun r σ9 => (r, σ9) = rf_plan σ x1 x3 x4 x5) (bMr dC dI cI cZ a A) A) [.ref (a 0), .long x1, .int x3, .int x4, .int x5].toArray s 0 0 A) (F0 m 44 ls []) := by
        intro n
        induction n with
        | zero =>
          intro k x6 ls hkn hl hq_9
          rw [rf_plan_44_0] at hq_9
          refine lv_iload hx hb dX4_plan_44 (lv_at hl 6 rfl) ?_
          refine lv_iload hx hb dX4_plan_46 (lv_at hl 3 rfl) ?_
          refine lv_icmp_ge (tgt := 64) hx hb dX4_plan_48 (by decide) (fun c_48_19 => ?_) (fun c_48_19 => ?_)
          · skip
            exact J_9 _ ls hq_9 (lv_sub hl [0, 1, 2, 3, 4, 5] rfl)
          · skip
            exact absurd (lpE hn4 hkn (by omega)) c_48_19
        | succ n ih =>
          intro k x6 ls hkn hl hq_9
          rw [rf_plan_44_s] at hq_9
          refine lv_iload hx hb dX4_plan_44 (lv_at hl 6 rfl) ?_
          refine lv_iload hx hb dX4_plan_46 (lv_at hl 3 rfl) ?_
          refine lv_icmp_ge (tgt := 64) hx hb dX4_plan_48 (by decide) (fun c_48_20 => ?_) (fun c_48_20 => ?_)
          · skip
            exact absurd c_48_20 (lpB hn4 hkn (by omega))
          · skip
            refine lv_iload hx hb dX4_plan_51 (lv_at hl 5 rfl) ?_
            refine lv_iload hx hb dX4_plan_53 (lv_at hl 4 rfl) ?_
            refine lv_imul hx hb dX4_plan_55 ?_
            refine lv_istore (lv' := [(6, .int (x6 * x5)), (0, .ref (a 0)), (1, .long x1), (3, .int x3), (4, .int x4), (5, .int x5), (7, .int (nI k))]) hx hb dX4_plan_56 hl (by decide) rfl (fun ls hl => ?_)
            refine lv_iinc (v := (nI (k + 1))) (lv' := [(7, .int (nI (k + 1))), (6, .int (x6 * x5)), (0, .ref (a 0)), (1, .long x1), (3, .int x3), (4, .int x4), (5, .int x5)]) hx hb dX4_plan_58 hl (k := 6) rfl (nI_1 k) (by decide) rfl (fun ls hl => ?_)
            refine lv_goto (tgt := 44) hx hb dX4_plan_61 (by decide) ?_
            exact ih (k + 1) (x6 * x5) ls (by omega) (lv_sub hl [2, 3, 4, 5, 6, 1, 0] rfl) hq_9
      exact loop x4.toNatClampNeg 0 (1 : Int32) ls (Nat.zero_add _) (lv_sub hl [2, 3, 4, 5, 6, 1, 0] rfl) hb_9
    · skip
      rw [if_neg c_33_4] at hw
      refine lv_iconst (v := 0) hx hb dX4_plan_36 (by decide) ?_
      exact W.iret (v := (0 : Int32)) hx hb hr (fun t ht hW => ⟨⟨(0 : Int32), σ_2, rfl, hw.symm.trans hR, by rw [ht]; exact hP, va_K.moved hW.alike hK, hD⟩, hS.F ht⟩) hS.2.2 dX4_plan_37
  have hq_1 := hb_1
  refine lv_if_eq (tgt := 22) hx hb dX4_plan_9 (by decide) (fun c_9_21 => ?_) (fun c_9_21 => ?_)
  · skip
    rw [if_pos c_9_21] at hq_1
    refine lv_iconst (v := 1) hx hb dX4_plan_22 (by decide) ?_
    refine lv_goto (tgt := 27) hx hb dX4_plan_23 (by decide) ?_
    exact J_1 _ ls hq_1 (lv_sub hl [0, 1, 2, 3, 4] rfl)
  · skip
    rw [if_neg c_9_21] at hq_1
    refine lv_iload hx hb dX4_plan_12 (lv_at hl 4 rfl) ?_
    refine lv_iconst (v := 1) hx hb dX4_plan_14 (by decide) ?_
    refine lv_iconst (v := 4) hx hb dX4_plan_15 (by decide) ?_
    refine vp_callSi (W.runS (As := [.int x5, .int (1 : Int32), .int (4 : Int32)]) (rest := [.ref (a 0)]) ⟨hx, hb, hml, hown, hts⟩ (m_X4_in l x5 (1 : Int32) (4 : Int32)) (cwS 3 hts (gS k_658 k_659 k_24 k_660) rfl rfl rfl (by decide +kernel) ⟨Nat.le_of_ble_eq_true rfl, Nat.le_of_ble_eq_true rfl⟩) ps_0 rfl rfl hl.1 rfl (lv_room (Nat.le_of_ble_eq_true rfl)) dX4_plan_16 ⟨Nat.le_of_ble_eq_true rfl, Nat.le_of_ble_eq_true rfl⟩) (fun r hrr => ?_)
    subst hrr
    refine lv_if_ne (tgt := 26) hx hb dX4_plan_19 (by decide) (fun c_19_22 => ?_) (fun c_19_22 => ?_)
    · skip
      rw [if_neg c_19_22] at hq_1
      refine lv_iconst (v := 0) hx hb dX4_plan_26 (by decide) ?_
      exact J_1 _ ls hq_1 (lv_sub hl [0, 1, 2, 3, 4] rfl)
    · skip
      rw [if_pos c_19_22] at hq_1
      refine lv_iconst (v := 1) hx hb dX4_plan_22 (by decide) ?_
      refine lv_goto (tgt := 27) hx hb dX4_plan_23 (by decide) ?_
      exact J_1 _ ls hq_1 (lv_sub hl [0, 1, 2, 3, 4] rfl)
set_option maxHeartbeats 4000000 in
set_option maxRecDepth 100000 in
theorem m_X4_life (l : Launch) (dC : Nat → ClassId) (dI : Nat → Nat → Nat) (cI cZ : ClassId) (a : Nat → Nat) (sz : Nat) (σ : St) (x1 : Int32) (x2 : Int32) (hiv : IVr σ) : Met l yX4_life wsX4_life ({ frames := 1, cells := 0, slots := 0, locals := 24 }) (pMr dC dI cI cZ a sz σ [.ref (a 0), .int x1, .int x2]) (va_Qi (fun r σ9 => (r, σ9) = rf_life σ x1 x2) (bMr dC dI cI cZ a (va_A (rw cI cZ a σ) sz)) (va_A (rw cI cZ a σ) sz)) 0 0 (va_A (rw cI cZ a σ) sz) := by
  refine Met.ofW (cc := cX4_life) (maxL := 9) (ret := (some .int)) (by decide) rfl ?_
  intro p e s m args below meth c s₁ B hml hv
  obtain ⟨rfl, hsz, hP, hK, hD0⟩ := hv
  have hx := B.exec
  have hb := B.bytes
  have hr := B.returns
  have hts := atoms_spec (ws := wsX4_life) B.pre
  have hown : s.vm.findClass RX4 = some m.cls := findClass_of_methodNamed B.named
  have hlocks := B.notSynchronized
  subst hsz
  have hD := hD0.self (sz := s.heap.size)
  generalize hAe : va_A (rw cI cZ a σ) s.heap.size = A at hD ⊢
  have hA : ∀ q : Nat, s.heap.size ≤ q → A q := fun q h => by rw [← hAe]; exact Or.inr h
  clear hAe hD0
  obtain ⟨H, hHe⟩ : ∃ z, z = s.heap := ⟨_, rfl⟩
  obtain ⟨locs, hLe⟩ : ∃ z : List Loc, z = [] := ⟨_, rfl⟩
  have hS : va_S A s.heap H locs := by rw [hHe, hLe]; exact va_S.rf
  have hP : va_P (dC, dI) vwCl (rw cI cZ a σ) H := by rw [hHe]; exact hP
  refine W_ofH hHe hLe ?_
  clear hHe hLe
  have hl := lv_entry ([.ref (a 0), .int x1, .int x2]) (n := 9) (Nat.le_of_ble_eq_true rfl)
  rw [lg_entry_eq]
  generalize (lg_sl ([.ref (a 0), .int x1, .int x2]) ++ List.replicate (9 - (lg_sl ([.ref (a 0), .int x1, .int x2])).length) Slot.unset).toArray = ls at hl ⊢
  have hl : lv_has ls 9 [(0, .ref (a 0)), (1, .int x1), (2, .int x2)] := hl
  obtain ⟨R, hR⟩ : ∃ z, z = rf_life σ x1 x2 := ⟨_, rfl⟩
  have hw := hR
  unfold rf_life at hw
  have hle := ir_le hiv
  refine lv_iload_n hx hb dX4_life_0 rfl (lv_at hl 1 rfl) ?_
  refine lv_iconst (v := 0) hx hb dX4_life_1 (by decide) ?_
  refine lv_iconst (v := 4) hx hb dX4_life_2 (by decide) ?_
  refine vp_callSi (W.runS (As := [.int x1, .int (0 : Int32), .int (4 : Int32)]) (rest := []) ⟨hx, hb, hml, hown, hts⟩ (m_X4_in l x1 (0 : Int32) (4 : Int32)) (cwS 3 hts (gS k_658 k_659 k_24 k_660) rfl rfl rfl (by decide +kernel) ⟨Nat.le_of_ble_eq_true rfl, Nat.le_of_ble_eq_true rfl⟩) ps_0 rfl rfl hl.1 rfl (lv_room (Nat.le_of_ble_eq_true rfl)) dX4_life_3 ⟨Nat.le_of_ble_eq_true rfl, Nat.le_of_ble_eq_true rfl⟩) (fun r hrr => ?_)
  subst hrr
  obtain ⟨b_1, hb_1⟩ : ∃ z : Int32, z = (if (rf_in x1 (0 : Int32) (4 : Int32)) = 0 then (1 : Int32) else (if (rf_in x2 (0 : Int32) (1 : Int32)) = 0 then (1 : Int32) else (0 : Int32))) := ⟨_, rfl⟩
  replace hw : R = (rf_life_33 σ x1 x2 (cntR σ) 0 b_1 (0 : Int32) (0 : Int32)) := by subst hb_1; exact hw
  have J_1 : ∀ (v9 : Int32) (ls : Array Slot), b_1 = v9 → lv_has ls 9 [(0, .ref (a 0)), (1, .int x1), (2, .int x2)] → W p l e (headSpec wsX4_life ({ frames := 1, cells := 0, slots := 0, locals := 24 })).room s m [.ref (a 0), .int x1, .int x2].toArray below meth c H locs 0 0 (MQ below (va_Qi (fun r σ9 => (r, σ9) = rf_life σ x1 x2) (bMr dC dI cI cZ a A) A) [.ref (a 0), .int x1, .int x2].toArray s 0 0 A) (F0 m 23 ls [.int v9]) := by
    intro v9 ls hv9 hl
    subst hv9
    refine lv_istore_n (lv' := [(3, .int b_1), (0, .ref (a 0)), (1, .int x1), (2, .int x2)]) hx hb dX4_life_23 rfl hl (by decide) rfl (fun ls hl => ?_)
    refine lv_iconst (v := 0) hx hb dX4_life_24 (by decide) ?_
    refine lv_istore (lv' := [(4, .int (0 : Int32)), (3, .int b_1), (0, .ref (a 0)), (1, .int x1), (2, .int x2)]) hx hb dX4_life_25 hl (by decide) rfl (fun ls hl => ?_)
    refine lv_iconst (v := 0) hx hb dX4_life_27 (by decide) ?_
    refine lv_istore (lv' := [(5, .int (0 : Int32)), (4, .int (0 : Int32)), (3, .int b_1), (0, .ref (a 0)), (1, .int x1), (2, .int x2)]) hx hb dX4_life_28 hl (by decide) rfl (fun ls hl => ?_)
    refine lv_iconst (v := 0) hx hb dX4_life_30 (by decide) ?_
    refine lv_istore (lv' := [(6, .int (0 : Int32)), (5, .int (0 : Int32)), (4, .int (0 : Int32)), (3, .int b_1), (0, .ref (a 0)), (1, .int x1), (2, .int x2)]) hx hb dX4_life_31 hl (by decide) rfl (fun ls hl => ?_)
    have loop : ∀ (n k : Nat) (x3 : Int32) (x4 : Int32) (x5 : Int32) (ls : Array Slot), k + n = cntR σ → x5 = nI x5.toNatClampNeg → x5.toNatClampNeg + n ≤ 40 → lv_has ls 9 [(0, .ref (a 0)), (1, .int x1), (2, .int x2), (3, .int x3), (4, .int x4), (5, .int x5), (6, .int (nI k))] → R = rf_life_33 σ x1 x2 n k x3 x4 x5 → W p l e (headSpec wsX4_life ({ frames := 1, cells := 0, slots := 0, locals := 24 })).room s m [.ref (a 0), .int x1, .int x2].toArray below meth c H locs 0 0 (MQ below (va_Qi (fun r σ9 => (r, σ9) = rf_life σ x1 x2) (bMr dC dI cI cZ a A) A) [.ref (a 0), .int x1, .int x2].toArray s 0 0 A) (F0 m 33 ls []) := by
      intro n
      induction n with
      | zero =>
        intro k x3 x4 x5 ls hkn hn5 h55 hl hw
        rw [rf_life_33_0] at hw
        refine lv_iload hx hb dX4_life_33 (lv_at hl 6 rfl) ?_
        refine lv_aload_n hx hb dX4_life_35 rfl (lv_at hl 0 rfl) ?_
        refine va_get (D := (dC, dI)) (ci := 4) (v := .int (σ 0 7)) (C := RX4) (T := TX4) (N := 23) hx hb hts (iwX4 _) hown hK hP 0 rfl rfl 7 (by decide) (hts _ (kc k_578)) (fun _ h9 => h9) rfl dX4_life_36 ?_
        refine lv_icmp_ge (tgt := 92) hx hb dX4_life_39 (by decide) (fun c_39_2 => ?_) (fun c_39_2 => ?_)
        · skip
          refine lv_aload_n hx hb dX4_life_92 rfl (lv_at hl 0 rfl) ?_
          refine lv_iload_n hx hb dX4_life_93 rfl (lv_at hl 3 rfl) ?_
          refine lv_iload hx hb dX4_life_94 (lv_at hl 5 rfl) ?_
          obtain ⟨b_3, hb_3⟩ : ∃ z : Int32, z = (if x5 = 0 then (1 : Int32) else (0 : Int32)) := ⟨_, rfl⟩
          replace hw : R = (let σ_4 : St := (rf_throwing σ x3 b_3 (0 : Int32) (0 : Int32)).2; if ((rf_throwing σ x3 b_3 (0 : Int32) (0 : Int32)).1) = 0 then (let b_11 : Int32 := rf_life_122 x5.toNatClampNeg x4 x5; if x2 = 0 then (x4 / b_11, σ_4) else (x5 / b_11, σ_4)) else ((0 : Int32), σ_4)) := by subst hb_3; exact hw
          have J_3 : ∀ (v9 : Int32) (ls : Array Slot), b_3 = v9 → lv_has ls 9 [(0, .ref (a 0)), (1, .int x1), (2, .int x2), (3, .int x3), (4, .int x4), (5, .int x5), (6, .int (nI k))] → W p l e (headSpec wsX4_life ({ frames := 1, cells := 0, slots := 0, locals := 24 })).room s m [.ref (a 0), .int x1, .int x2].toArray below meth c H locs 0 0 (MQ below (va_Qi (fun r σ9 => (r, σ9) = rf_life σ x1 x2) (bMr dC dI cI cZ a A) A) [.ref (a 0), .int x1, .int x2].toArray s 0 0 A) (F0 m 104 ls [.int v9, .int x3, .ref (a 0)]) := by
            intro v9 ls hv9 hl
            subst hv9
            refine lv_iconst (v := 0) hx hb dX4_life_104 (by decide) ?_
            refine lv_iconst (v := 0) hx hb dX4_life_105 (by decide) ?_
            have hFc := fr_all hD hS hA
            refine va_calli (va_runV (As := [.int x3, .int b_3, .int (0 : Int32), .int (0 : Int32)]) (rest := []) ⟨hx, hb, hml, hown, hts⟩ (m_X4_throwing l dC dI cI cZ a H.size σ x3 b_3 (0 : Int32) (0 : Int32)) (cwV 4 hts (gV k_650 k_652 k_11 k_24 k_653) rfl rfl rfl (by decide +kernel) ⟨Nat.le_of_ble_eq_true rfl, Nat.le_of_ble_eq_true rfl⟩) (pv_mr (q := (RX4, TX4, 23)) (q0 := 0) (ci := 4) hK hP hD rfl rfl) rfl rfl hl.1 rfl (lv_room (Nat.le_of_ble_eq_true rfl)) dX4_life_106 ⟨Nat.le_of_ble_eq_true rfl, Nat.le_of_ble_eq_true rfl⟩) hS (fun q _ h => hFc q h) hFc (fun r σ_4 t H1 locs ht hvm hw9 hB hz1 hk1 hS => ?_)
            obtain ⟨hP, hK1, hD1⟩ := hB
            rw [ht] at hP
            have hD := hD1.weaken (fun _ _ _ h => hFc _ h)
            clear hFc hD1 hK1
            obtain ⟨rfl, eσ_4⟩ : r = (rf_throwing σ x3 b_3 (0 : Int32) (0 : Int32)).1 ∧ σ_4 = (rf_throwing σ x3 b_3 (0 : Int32) (0 : Int32)).2 := ⟨congrArg Prod.fst hw9, congrArg Prod.snd hw9⟩
            clear hw9
            replace hw : R = (if ((rf_throwing σ x3 b_3 (0 : Int32) (0 : Int32)).1) = 0 then (let b_11 : Int32 := rf_life_122 x5.toNatClampNeg x4 x5; if x2 = 0 then (x4 / b_11, σ_4) else (x5 / b_11, σ_4)) else ((0 : Int32), σ_4)) := by subst eσ_4; exact hw
            generalize H1 = H at hP hS ⊢
            have hiv_5 : IVr σ_4 := by rw [eσ_4]; exact ir_thr hiv _ _ _ _
            refine lv_if_eq (tgt := 114) hx hb dX4_life_109 (by decide) (fun c_109_6 => ?_) (fun c_109_6 => ?_)
            · skip
              rw [if_pos c_109_6] at hw
              obtain ⟨z0_7, z1_8, z2_9, z3_10⟩ := thr0 c_109_6
              have h5z := bd_n0 hb_3 z1_8
              refine lv_iload hx hb dX4_life_114 (lv_at hl 4 rfl) ?_
              refine lv_istore (lv' := [(6, .int x4), (0, .ref (a 0)), (1, .int x1), (2, .int x2), (3, .int x3), (4, .int x4), (5, .int x5)]) hx hb dX4_life_116 hl (by decide) rfl (fun ls hl => ?_)
              refine lv_iload hx hb dX4_life_118 (lv_at hl 6 rfl) ?_
              refine lv_istore (lv' := [(7, .int x5), (6, .int x4), (0, .ref (a 0)), (1, .int x1), (2, .int x2), (3, .int x3), (4, .int x4), (5, .int x5)]) hx hb dX4_life_120 hl (by decide) rfl (fun ls hl => ?_)
              obtain ⟨b_11, hb_11⟩ : ∃ z : Int32, z = rf_life_122 x5.toNatClampNeg x4 x5 := ⟨_, rfl⟩
              replace hw : R = (if x2 = 0 then (x4 / b_11, σ_4) else (x5 / b_11, σ_4)) := by subst hb_11; exact hw
              have J_11 : ∀ (v9 : Int32) (ls : Array Slot), b_11 = v9 → ¬ v9 = 0 → lv_has ls 9 [(0, .ref (a 0)), (1, .int x1), (2, .int x2), (4, .int x4), (5, .int x5), (6, .int v9)] → W p l e (headSpec wsX4_life ({ frames := 1, cells := 0, slots := 0, locals := 24 })).room s m [.ref (a 0), .int x1, .int x2].toArray below meth c H locs 0 0 (MQ below (va_Qi (fun r σ9 => (r, σ9) = rf_life σ x1 x2) (bMr dC dI cI cZ a A) A) [.ref (a 0), .int x1, .int x2].toArray s 0 0 A) (F0 m 145 ls []) := by
                intro v9 ls hv9 hvz hl
                subst hv9
                refine lv_iload_n hx hb dX4_life_145 rfl (lv_at hl 2 rfl) ?_
                refine lv_if_ne (tgt := 157) hx hb dX4_life_146 (by decide) (fun c_146_12 => ?_) (fun c_146_12 => ?_)
                · skip
                  rw [if_neg c_146_12] at hw
                  refine lv_iload hx hb dX4_life_157 (lv_at hl 4 rfl) ?_
                  refine lv_iload hx hb dX4_life_159 (lv_at hl 5 rfl) ?_
                  refine lv_idiv hx hb dX4_life_161 hvz ?_
                  exact W.iret (v := x5 / b_11) hx hb hr (fun t ht hW => ⟨⟨x5 / b_11, σ_4, rfl, hw.symm.trans hR, by rw [ht]; exact hP, va_K.moved hW.alike hK, hD⟩, hS.F ht⟩) hS.2.2 dX4_life_162
                · skip
                  rw [if_pos c_146_12] at hw
                  refine lv_iload hx hb dX4_life_149 (lv_at hl 3 rfl) ?_
                  refine lv_iload hx hb dX4_life_151 (lv_at hl 5 rfl) ?_
                  refine lv_idiv hx hb dX4_life_153 hvz ?_
                  refine lv_goto (tgt := 162) hx hb dX4_life_154 (by decide) ?_
                  exact W.iret (v := x4 / b_11) hx hb hr (fun t ht hW => ⟨⟨x4 / b_11, σ_4, rfl, hw.symm.trans hR, by rw [ht]; exact hP, va_K.moved hW.alike hK, hD⟩, hS.F ht⟩) hS.2.2 dX4_life_162
              have gl : ∀ (f : Nat) (x6 x7 : Int32) (ls : Array Slot), x7.toInt ≤ f → (¬ x6 = 0 ∨ 0 < x7) → lv_has ls 9 [(0, .ref (a 0)), (1, .int x1), (2, .int x2), (4, .int x4), (5, .int x5), (6, .int x6), (7, .int x7)] → b_11 = rf_life_122 f x6 x7 → W p l e (headSpec wsX4_life ({ frames := 1, cells := 0, slots := 0, locals := 24 })).room s m [.ref (a 0), .int x1, .int x2].toArray below meth c H locs 0 0 (MQ below (va_Qi (fun r σ9 => (r, σ9) = rf_life σ x1 x2) (bMr dC dI cI cZ a A) A) [.ref (a 0), .int x1, .int x2].toArray s 0 0 A) (F0 m 122 ls []) := by
                intro f
                induction f with
                | zero =>
                  intro x6 x7 ls hf hor hl hq_11
                  rw [rf_life_122_0] at hq_11
                  refine lv_iload hx hb dX4_life_122 (lv_at hl 6 rfl) ?_
                  refine lv_if_le (tgt := 145) hx hb dX4_life_124 (by decide) (fun c_124_13 => ?_) (fun c_124_13 => ?_)
                  · skip
                    exact J_11 _ ls hq_11 (gc_nz hor c_124_13) (lv_sub hl [0, 1, 2, 3, 4, 5] rfl)
                  · skip
                    exact absurd (gc_0 hf) c_124_13
                | succ f ihf =>
                  intro x6 x7 ls hf hor hl hq_11
                  rw [rf_life_122_s] at hq_11
                  refine lv_iload hx hb dX4_life_122 (lv_at hl 6 rfl) ?_
                  refine lv_if_le (tgt := 145) hx hb dX4_life_124 (by decide) (fun c_124_14 => ?_) (fun c_124_14 => ?_)
                  · skip
                    rw [if_pos c_124_14] at hq_11
                    exact J_11 _ ls hq_11 (gc_nz hor c_124_14) (lv_sub hl [0, 1, 2, 3, 4, 5] rfl)
                  · skip
                    rw [if_neg c_124_14] at hq_11
                    refine lv_iload hx hb dX4_life_127 (lv_at hl 5 rfl) ?_
                    refine lv_iload hx hb dX4_life_129 (lv_at hl 6 rfl) ?_
                    refine lv_irem hx hb dX4_life_131 (gc_ne c_124_14) ?_
                    refine lv_istore (lv' := [(8, .int (x6 - x6 / x7 * x7)), (0, .ref (a 0)), (1, .int x1), (2, .int x2), (4, .int x4), (5, .int x5), (6, .int x6), (7, .int x7)]) hx hb dX4_life_132 hl (by decide) rfl (fun ls hl => ?_)
                    refine lv_iload hx hb dX4_life_134 (lv_at hl 7 rfl) ?_
                    refine lv_istore (lv' := [(6, .int x7), (8, .int (x6 - x6 / x7 * x7)), (0, .ref (a 0)), (1, .int x1), (2, .int x2), (4, .int x4), (5, .int x5), (7, .int x7)]) hx hb dX4_life_136 hl (by decide) rfl (fun ls hl => ?_)
                    refine lv_iload hx hb dX4_life_138 (lv_at hl 1 rfl) ?_
                    refine lv_istore (lv' := [(7, .int (x6 - x6 / x7 * x7)), (6, .int x7), (8, .int (x6 - x6 / x7 * x7)), (0, .ref (a 0)), (1, .int x1), (2, .int x2), (4, .int x4), (5, .int x5)]) hx hb dX4_life_140 hl (by decide) rfl (fun ls hl => ?_)
                    refine lv_goto (tgt := 122) hx hb dX4_life_142 (by decide) ?_
                    exact ihf x7 (x6 - x6 / x7 * x7) ls (gc_s hf c_124_14) (Or.inl (gc_ne c_124_14)) (lv_sub hl [3, 4, 5, 6, 7, 1, 0] rfl) hq_11
              exact gl x5.toNatClampNeg x4 x5 ls (gc_le hn5) (Or.inr (gc_pos hn5 h5z)) (lv_sub hl [2, 3, 4, 6, 7, 1, 0] rfl) hb_11
            · skip
              rw [if_neg c_109_6] at hw
              refine lv_iconst (v := 0) hx hb dX4_life_112 (by decide) ?_
              exact W.iret (v := (0 : Int32)) hx hb hr (fun t ht hW => ⟨⟨(0 : Int32), σ_4, rfl, hw.symm.trans hR, by rw [ht]; exact hP, va_K.moved hW.alike hK, hD⟩, hS.F ht⟩) hS.2.2 dX4_life_113
          have hq_3 := hb_3
          refine lv_if_ne (tgt := 103) hx hb dX4_life_96 (by decide) (fun c_96_15 => ?_) (fun c_96_15 => ?_)
          · skip
            rw [if_neg c_96_15] at hq_3
            refine lv_iconst (v := 0) hx hb dX4_life_103 (by decide) ?_
            exact J_3 _ ls hq_3 (lv_sub hl [0, 1, 2, 3, 4, 5, 6] rfl)
          · skip
            rw [if_pos c_96_15] at hq_3
            refine lv_iconst (v := 1) hx hb dX4_life_99 (by decide) ?_
            refine lv_goto (tgt := 104) hx hb dX4_life_100 (by decide) ?_
            exact J_3 _ ls hq_3 (lv_sub hl [0, 1, 2, 3, 4, 5, 6] rfl)
        · skip
          exact absurd (lpE (ir_cnt hiv) hkn (by omega)) c_39_2
      | succ n ih =>
        intro k x3 x4 x5 ls hkn hn5 h55 hl hw
        rw [rf_life_33_s] at hw
        have hkf : vp_in (nI k) 40 := vp_in_nI (by omega) (by decide)
        refine lv_iload hx hb dX4_life_33 (lv_at hl 6 rfl) ?_
        refine lv_aload_n hx hb dX4_life_35 rfl (lv_at hl 0 rfl) ?_
        refine va_get (D := (dC, dI)) (ci := 4) (v := .int (σ 0 7)) (C := RX4) (T := TX4) (N := 23) hx hb hts (iwX4 _) hown hK hP 0 rfl rfl 7 (by decide) (hts _ (kc k_578)) (fun _ h9 => h9) rfl dX4_life_36 ?_
        refine lv_icmp_ge (tgt := 92) hx hb dX4_life_39 (by decide) (fun c_39_16 => ?_) (fun c_39_16 => ?_)
        · skip
          exact absurd c_39_16 (lpB (ir_cnt hiv) hkn (by omega))
        · skip
          refine lv_aload_n hx hb dX4_life_42 rfl (lv_at hl 0 rfl) ?_
          refine va_get (D := (dC, dI)) (ci := 4) (v := .ref (a 8)) (C := RX4) (T := TX4) (N := 23) hx hb hts (iwX4 _) hown hK hP 0 rfl rfl 8 (by decide) (hts _ (kc k_579)) (fun _ h9 => h9) rfl dX4_life_43 ?_
          refine lv_iload hx hb dX4_life_46 (lv_at hl 6 rfl) ?_
          refine va_iald (D := (dC, dI)) (f := σ 8) hx hb hK hP 6 0 rfl rfl (i := nI k) hkf dX4_life_48 ?_
          refine lv_iload_n hx hb dX4_life_49 rfl (lv_at hl 1 rfl) ?_
          refine lv_icmp_ne (tgt := 86) hx hb dX4_life_50 (by decide) (fun c_50_17 => ?_) (fun c_50_17 => ?_)
          · skip
            rw [if_neg c_50_17] at hw
            refine lv_iinc (v := (nI (k + 1))) (lv' := [(6, .int (nI (k + 1))), (0, .ref (a 0)), (1, .int x1), (2, .int x2), (3, .int x3), (4, .int x4), (5, .int x5)]) hx hb dX4_life_86 hl (k := 6) rfl (nI_1 k) (by decide) rfl (fun ls hl => ?_)
            refine lv_goto (tgt := 33) hx hb dX4_life_89 (by decide) ?_
            exact ih (k + 1) x3 x4 x5 ls (by omega) hn5 (by omega) (lv_sub hl [1, 2, 3, 4, 5, 6, 0] rfl) hw
          · skip
            rw [if_pos c_50_17] at hw
            refine lv_aload_n hx hb dX4_life_53 rfl (lv_at hl 0 rfl) ?_
            refine va_get (D := (dC, dI)) (ci := 4) (v := .ref (a 13)) (C := RX4) (T := TX4) (N := 23) hx hb hts (iwX4 _) hown hK hP 0 rfl rfl 13 (by decide) (hts _ (kc k_584)) (fun _ h9 => h9) rfl dX4_life_54 ?_
            refine lv_iload hx hb dX4_life_57 (lv_at hl 6 rfl) ?_
            refine va_iald (D := (dC, dI)) (f := σ 13) hx hb hK hP 11 0 rfl rfl (i := nI k) hkf dX4_life_59 ?_
            refine lv_if_lt (tgt := 86) hx hb dX4_life_60 (by decide) (fun c_60_18 => ?_) (fun c_60_18 => ?_)
            · skip
              rw [if_pos c_60_18] at hw
              refine lv_iinc (v := (nI (k + 1))) (lv' := [(6, .int (nI (k + 1))), (0, .ref (a 0)), (1, .int x1), (2, .int x2), (3, .int x3), (4, .int x4), (5, .int x5)]) hx hb dX4_life_86 hl (k := 6) rfl (nI_1 k) (by decide) rfl (fun ls hl => ?_)
              refine lv_goto (tgt := 33) hx hb dX4_life_89 (by decide) ?_
              exact ih (k + 1) x3 x4 x5 ls (by omega) hn5 (by omega) (lv_sub hl [1, 2, 3, 4, 5, 6, 0] rfl) hw
            · skip
              rw [if_neg c_60_18] at hw
              refine lv_iload hx hb dX4_life_63 (lv_at hl 4 rfl) ?_
              refine lv_aload_n hx hb dX4_life_65 rfl (lv_at hl 0 rfl) ?_
              refine va_get (D := (dC, dI)) (ci := 4) (v := .ref (a 13)) (C := RX4) (T := TX4) (N := 23) hx hb hts (iwX4 _) hown hK hP 0 rfl rfl 13 (by decide) (hts _ (kc k_584)) (fun _ h9 => h9) rfl dX4_life_66 ?_
              refine lv_iload hx hb dX4_life_69 (lv_at hl 6 rfl) ?_
              refine va_iald (D := (dC, dI)) (f := σ 13) hx hb hK hP 11 0 rfl rfl (i := nI k) hkf dX4_life_71 ?_
              refine lv_aload_n hx hb dX4_life_72 rfl (lv_at hl 0 rfl) ?_
              refine va_get (D := (dC, dI)) (ci := 4) (v := .ref (a 12)) (C := RX4) (T := TX4) (N := 23) hx hb hts (iwX4 _) hown hK hP 0 rfl rfl 12 (by decide) (hts _ (kc k_583)) (fun _ h9 => h9) rfl dX4_life_73 ?_
              refine lv_iload hx hb dX4_life_76 (lv_at hl 6 rfl) ?_
              refine va_iald (D := (dC, dI)) (f := σ 12) hx hb hK hP 10 0 rfl rfl (i := nI k) hkf dX4_life_78 ?_
              refine lv_isub hx hb dX4_life_79 ?_
              refine lv_iadd hx hb dX4_life_80 ?_
              refine lv_istore (lv' := [(4, .int (x4 + ((σ 13 (nI k).toNatClampNeg) - (σ 12 (nI k).toNatClampNeg)))), (0, .ref (a 0)), (1, .int x1), (2, .int x2), (3, .int x3), (5, .int x5), (6, .int (nI k))]) hx hb dX4_life_81 hl (by decide) rfl (fun ls hl => ?_)
              refine lv_iinc (v := (x5 + (1 : Int32))) (lv' := [(5, .int (x5 + (1 : Int32))), (4, .int (x4 + ((σ 13 (nI k).toNatClampNeg) - (σ 12 (nI k).toNatClampNeg)))), (0, .ref (a 0)), (1, .int x1), (2, .int x2), (3, .int x3), (6, .int (nI k))]) hx hb dX4_life_83 hl (k := 5) rfl rfl (by decide) rfl (fun ls hl => ?_)
              refine lv_iinc (v := (nI (k + 1))) (lv' := [(6, .int (nI (k + 1))), (5, .int (x5 + (1 : Int32))), (4, .int (x4 + ((σ 13 (nI k).toNatClampNeg) - (σ 12 (nI k).toNatClampNeg)))), (0, .ref (a 0)), (1, .int x1), (2, .int x2), (3, .int x3)]) hx hb dX4_life_86 hl (k := 6) rfl (nI_1 k) (by decide) rfl (fun ls hl => ?_)
              refine lv_goto (tgt := 33) hx hb dX4_life_89 (by decide) ?_
              exact ih (k + 1) x3 (x4 + ((σ 13 (nI k).toNatClampNeg) - (σ 12 (nI k).toNatClampNeg))) (x5 + (1 : Int32)) ls (by omega) (gc_i hn5 h55) (gc_j hn5 h55) (lv_sub hl [3, 4, 5, 6, 2, 1, 0] rfl) hw
    exact loop (cntR σ) 0 b_1 (0 : Int32) (0 : Int32) ls (Nat.zero_add _) gc_i0 (by rw [show ((0 : Int32)).toNatClampNeg = 0 from rfl]; omega) (lv_sub hl [4, 5, 6, 3, 2, 1, 0] rfl) hw
  have hq_1 := hb_1
  refine lv_if_eq (tgt := 18) hx hb dX4_life_6 (by decide) (fun c_6_19 => ?_) (fun c_6_19 => ?_)
  · skip
    rw [if_pos c_6_19] at hq_1
    refine lv_iconst (v := 1) hx hb dX4_life_18 (by decide) ?_
    refine lv_goto (tgt := 23) hx hb dX4_life_19 (by decide) ?_
    exact J_1 _ ls hq_1 (lv_sub hl [0, 1, 2] rfl)
  · skip
    rw [if_neg c_6_19] at hq_1
    refine lv_iload_n hx hb dX4_life_9 rfl (lv_at hl 2 rfl) ?_
    refine lv_iconst (v := 0) hx hb dX4_life_10 (by decide) ?_
    refine lv_iconst (v := 1) hx hb dX4_life_11 (by decide) ?_
    refine vp_callSi (W.runS (As := [.int x2, .int (0 : Int32), .int (1 : Int32)]) (rest := []) ⟨hx, hb, hml, hown, hts⟩ (m_X4_in l x2 (0 : Int32) (1 : Int32)) (cwS 3 hts (gS k_658 k_659 k_24 k_660) rfl rfl rfl (by decide +kernel) ⟨Nat.le_of_ble_eq_true rfl, Nat.le_of_ble_eq_true rfl⟩) ps_0 rfl rfl hl.1 rfl (lv_room (Nat.le_of_ble_eq_true rfl)) dX4_life_12 ⟨Nat.le_of_ble_eq_true rfl, Nat.le_of_ble_eq_true rfl⟩) (fun r hrr => ?_)
    subst hrr
    refine lv_if_ne (tgt := 22) hx hb dX4_life_15 (by decide) (fun c_15_20 => ?_) (fun c_15_20 => ?_)
    · skip
      rw [if_neg c_15_20] at hq_1
      refine lv_iconst (v := 0) hx hb dX4_life_22 (by decide) ?_
      exact J_1 _ ls hq_1 (lv_sub hl [0, 1, 2] rfl)
    · skip
      rw [if_pos c_15_20] at hq_1
      refine lv_iconst (v := 1) hx hb dX4_life_18 (by decide) ?_
      refine lv_goto (tgt := 23) hx hb dX4_life_19 (by decide) ?_
      exact J_1 _ ls hq_1 (lv_sub hl [0, 1, 2] rfl)
