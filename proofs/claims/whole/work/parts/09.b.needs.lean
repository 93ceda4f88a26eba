set_option maxHeartbeats 4000000 in
set_option maxRecDepth 100000 in
theorem m_X3_needKnown (l : Launch) (hl9 : l.stackTraces = false) (zk : Nat → Nat) (sz : Nat) (x0 x1 : Int32) : vx_Met l yX3_needKnown wsX3_needKnown ({ frames := 6, cells := 1, slots := 6, locals := 90 }) (pNd zk sz [.int x0, .int x1]) (nx_Q (okKnown x0 x1)) (nx_X "java/lang/IllegalArgumentException" (okKnown x0 x1)) 1 6 (fun _ => False) := by
  refine vx_ofW (cc := cX3_needKnown) (maxL := 2) (ret := none) (by decide) rfl ?_
  intro p e s m args below meth c s₁ B hml hEx hv
  obtain ⟨rfl, hsz, hz⟩ := hv
  have hx := B.exec
  have hb := B.bytes
  have hr := B.returns
  have hts := atoms_spec (ws := wsX3_needKnown) B.pre
  have hown : s.vm.findClass RX3 = some m.cls := findClass_of_methodNamed B.named
  have hlocks := B.notSynchronized
  subst hsz
  have hS : va_S (va_A [] s.heap.size) s.heap s.heap [] := va_S.rf
  have hl := lv_entry ([.int x0, .int x1]) (n := 2) (Nat.le_of_ble_eq_true rfl)
  rw [lg_entry_eq]
  generalize (lg_sl ([.int x0, .int x1]) ++ List.replicate (2 - (lg_sl ([.int x0, .int x1])).length) Slot.unset).toArray = ls at hl ⊢
  have hl : lv_has ls 2 [(0, .int x0), (1, .int x1)] := hl
  refine lv_iload_n hx hb dX3_needKnown_0 rfl (lv_at hl 0 rfl) ?_
  refine lv_if_lt (tgt := 9) hx hb dX3_needKnown_1 (by decide) (fun c_1_1 => ?_) (fun c_1_1 => ?_)
  · skip
    exact vx_throwS (own := RX3) (cls := "java/lang/IllegalArgumentException") (text := "an unknown number") (names := ["java/lang/RuntimeException", "java/lang/Exception"]) hx hb hl9 hown (by decide) (by decide) (hts _ (kc k_266)) (hts _ (kc k_29)) (hz.2.2.1 0 _ rfl) (vx_hat (fun w hw9 => hts w (kc (at_155 w hw9))) ab_155 (vx_c (va_Nw.use rfl (hz.2.2.2.1.1 _ (by decide))) (vx_c (va_Nw.use rfl (hz.2.2.2.1.2.1 _ (by decide))) (vx_c (va_Nw.use rfl (hz.2.2.2.1.2.1 _ (by decide))) (vx_c (va_Nw.use rfl (hz.2.2.2.1.2.1 _ (by decide))) vx_n))))) go_151_155 hz.1 hz.2.1 hS (hl.1.trans hml.symm) dX3_needKnown_9 dX3_needKnown_12 dX3_needKnown_13 dX3_needKnown_15 dX3_needKnown_18 (fun x hx9 => (hEx x hx9).elim) (Nat.le_of_ble_eq_true rfl) (Nat.le_of_ble_eq_true rfl) (Nat.le_of_ble_eq_true rfl) (Nat.le_of_ble_eq_true rfl) hlocks (fun t hvm h1 h2 => ⟨rfl, by simp [okKnown, c_1_1], h1, h2⟩) (fun _ h => by cases h) (Nat.le_of_ble_eq_true rfl) (Nat.le_of_ble_eq_true rfl)
  · skip
    refine lv_iload_n hx hb dX3_needKnown_4 rfl (lv_at hl 0 rfl) ?_
    refine lv_iload_n hx hb dX3_needKnown_5 rfl (lv_at hl 1 rfl) ?_
    refine lv_icmp_lt (tgt := 19) hx hb dX3_needKnown_6 (by decide) (fun c_6_2 => ?_) (fun c_6_2 => ?_)
    · skip
      refine vx_ret ?_
      refine W.widen (k := 1) (n := 6) (Nat.le_of_ble_eq_true rfl) (Nat.le_of_ble_eq_true rfl) ?_
      exact W.vret hx hb hr (fun t ht hW => ⟨rfl, by simp [okKnown, c_1_1, c_6_2], ht⟩) (fun _ h => by cases h) dX3_needKnown_19
    · skip
      exact vx_throwS (own := RX3) (cls := "java/lang/IllegalArgumentException") (text := "an unknown number") (names := ["java/lang/RuntimeException", "java/lang/Exception"]) hx hb hl9 hown (by decide) (by decide) (hts _ (kc k_266)) (hts _ (kc k_29)) (hz.2.2.1 0 _ rfl) (vx_hat (fun w hw9 => hts w (kc (at_155 w hw9))) ab_155 (vx_c (va_Nw.use rfl (hz.2.2.2.1.1 _ (by decide))) (vx_c (va_Nw.use rfl (hz.2.2.2.1.2.1 _ (by decide))) (vx_c (va_Nw.use rfl (hz.2.2.2.1.2.1 _ (by decide))) (vx_c (va_Nw.use rfl (hz.2.2.2.1.2.1 _ (by decide))) vx_n))))) go_151_155 hz.1 hz.2.1 hS (hl.1.trans hml.symm) dX3_needKnown_9 dX3_needKnown_12 dX3_needKnown_13 dX3_needKnown_15 dX3_needKnown_18 (fun x hx9 => (hEx x hx9).elim) (Nat.le_of_ble_eq_true rfl) (Nat.le_of_ble_eq_true rfl) (Nat.le_of_ble_eq_true rfl) (Nat.le_of_ble_eq_true rfl) hlocks (fun t hvm h1 h2 => ⟨rfl, by simp [okKnown, c_1_1, c_6_2], h1, h2⟩) (fun _ h => by cases h) (Nat.le_of_ble_eq_true rfl) (Nat.le_of_ble_eq_true rfl)
set_option maxHeartbeats 4000000 in
set_option maxRecDepth 100000 in
theorem m_X3_needRange (l : Launch) (hl9 : l.stackTraces = false) (zk : Nat → Nat) (sz : Nat) (x0 x1 x2 : Int32) : vx_Met l yX3_needRange wsX3_needRange ({ frames := 6, cells := 1, slots := 6, locals := 90 }) (pNd zk sz [.int x0, .int x1, .int x2]) (nx_Q (okRange x0 x1 x2)) (nx_X "java/lang/IndexOutOfBoundsException" (okRange x0 x1 x2)) 1 6 (fun _ => False) := by
  refine vx_ofW (cc := cX3_needRange) (maxL := 3) (ret := none) (by decide) rfl ?_
  intro p e s m args below meth c s₁ B hml hEx hv
  obtain ⟨rfl, hsz, hz⟩ := hv
  have hx := B.exec
  have hb := B.bytes
  have hr := B.returns
  have hts := atoms_spec (ws := wsX3_needRange) B.pre
  have hown : s.vm.findClass RX3 = some m.cls := findClass_of_methodNamed B.named
  have hlocks := B.notSynchronized
  subst hsz
  have hS : va_S (va_A [] s.heap.size) s.heap s.heap [] := va_S.rf
  have hl := lv_entry ([.int x0, .int x1, .int x2]) (n := 3) (Nat.le_of_ble_eq_true rfl)
  rw [lg_entry_eq]
  generalize (lg_sl ([.int x0, .int x1, .int x2]) ++ List.replicate (3 - (lg_sl ([.int x0, .int x1, .int x2])).length) Slot.unset).toArray = ls at hl ⊢
  have hl : lv_has ls 3 [(0, .int x0), (1, .int x1), (2, .int x2)] := hl
  refine lv_iload_n hx hb dX3_needRange_0 rfl (lv_at hl 0 rfl) ?_
  refine lv_iload_n hx hb dX3_needRange_1 rfl (lv_at hl 1 rfl) ?_
  refine lv_icmp_lt (tgt := 10) hx hb dX3_needRange_2 (by decide) (fun c_2_1 => ?_) (fun c_2_1 => ?_)
  · skip
    exact vx_throwS (own := RX3) (cls := "java/lang/IndexOutOfBoundsException") (text := "a number outside its range") (names := ["java/lang/RuntimeException", "java/lang/Exception"]) hx hb hl9 hown (by decide) (by decide) (hts _ (kc k_185)) (hts _ (kc k_28)) (hz.2.2.1 1 _ rfl) (vx_hat (fun w hw9 => hts w (kc (at_186 w hw9))) ab_186 (vx_c (va_Nw.use rfl (hz.2.2.2.1.1 _ (by decide))) (vx_c (va_Nw.use rfl (hz.2.2.2.1.2.1 _ (by decide))) (vx_c (va_Nw.use rfl (hz.2.2.2.1.2.1 _ (by decide))) (vx_c (va_Nw.use rfl (hz.2.2.2.1.2.1 _ (by decide))) vx_n))))) go_182_186 hz.1 hz.2.1 hS (hl.1.trans hml.symm) dX3_needRange_10 dX3_needRange_13 dX3_needRange_14 dX3_needRange_16 dX3_needRange_19 (fun x hx9 => (hEx x hx9).elim) (Nat.le_of_ble_eq_true rfl) (Nat.le_of_ble_eq_true rfl) (Nat.le_of_ble_eq_true rfl) (Nat.le_of_ble_eq_true rfl) hlocks (fun t hvm h1 h2 => ⟨rfl, by simp [okRange, c_2_1], h1, h2⟩) (fun _ h => by cases h) (Nat.le_of_ble_eq_true rfl) (Nat.le_of_ble_eq_true rfl)
  · skip
    refine lv_iload_n hx hb dX3_needRange_5 rfl (lv_at hl 0 rfl) ?_
    refine lv_iload_n hx hb dX3_needRange_6 rfl (lv_at hl 2 rfl) ?_
    refine lv_icmp_le (tgt := 20) hx hb dX3_needRange_7 (by decide) (fun c_7_2 => ?_) (fun c_7_2 => ?_)
    · skip
      refine vx_ret ?_
      refine W.widen (k := 1) (n := 6) (Nat.le_of_ble_eq_true rfl) (Nat.le_of_ble_eq_true rfl) ?_
      exact W.vret hx hb hr (fun t ht hW => ⟨rfl, by simp [okRange, c_2_1, c_7_2], ht⟩) (fun _ h => by cases h) dX3_needRange_20
    · skip
      exact vx_throwS (own := RX3) (cls := "java/lang/IndexOutOfBoundsException") (text := "a number outside its range") (names := ["java/lang/RuntimeException", "java/lang/Exception"]) hx hb hl9 hown (by decide) (by decide) (hts _ (kc k_185)) (hts _ (kc k_28)) (hz.2.2.1 1 _ rfl) (vx_hat (fun w hw9 => hts w (kc (at_186 w hw9))) ab_186 (vx_c (va_Nw.use rfl (hz.2.2.2.1.1 _ (by decide))) (vx_c (va_Nw.use rfl (hz.2.2.2.1.2.1 _ (by decide))) (vx_c (va_Nw.use rfl (hz.2.2.2.1.2.1 _ (by decide))) (vx_c (va_Nw.use rfl (hz.2.2.2.1.2.1 _ (by decide))) vx_n))))) go_182_186 hz.1 hz.2.1 hS (hl.1.trans hml.symm) dX3_needRange_10 dX3_needRange_13 dX3_needRange_14 dX3_needRange_16 dX3_needRange_19 (fun x hx9 => (hEx x hx9).elim) (Nat.le_of_ble_eq_true rfl) (Nat.le_of_ble_eq_true rfl) (Nat.le_of_ble_eq_true rfl) (Nat.le_of_ble_eq_true rfl) hlocks (fun t hvm h1 h2 => ⟨rfl, by simp [okRange, c_2_1, c_7_2], h1, h2⟩) (fun _ h => by cases h) (Nat.le_of_ble_eq_true rfl) (Nat.le_of_ble_eq_true rfl)
set_option maxHeartbeats 4000000 in
set_option maxRecDepth 100000 in
theorem m_X3_needState (l : Launch) (hl9 : l.stackTraces = false) (zk : Nat → Nat) (sz : Nat) (x0 : Int32) : vx_Met l yX3_needState wsX3_needState ({ frames := 6, cells := 1, slots := 6, locals := 90 }) (pNd zk sz [.int x0]) (nx_Q (okState x0)) (nx_X "java/lang/IllegalStateException" (okState x0)) 1 6 (fun _ => False) := by
  refine vx_ofW (cc := cX3_needState) (maxL := 1) (ret := none) (by decide) rfl ?_
  intro p e s m args below meth c s₁ B hml hEx hv
  obtain ⟨rfl, hsz, hz⟩ := hv
  have hx := B.exec
  have hb := B.bytes
  have hr := B.returns
  have hts := atoms_spec (ws := wsX3_needState) B.pre
  have hown : s.vm.findClass RX3 = some m.cls := findClass_of_methodNamed B.named
  have hlocks := B.notSynchronized
  subst hsz
  have hS : va_S (va_A [] s.heap.size) s.heap s.heap [] := va_S.rf
  have hl := lv_entry ([.int x0]) (n := 1) (Nat.le_of_ble_eq_true rfl)
  rw [lg_entry_eq]
  generalize (lg_sl ([.int x0]) ++ List.replicate (1 - (lg_sl ([.int x0])).length) Slot.unset).toArray = ls at hl ⊢
  have hl : lv_has ls 1 [(0, .int x0)] := hl
  refine lv_iload_n hx hb dX3_needState_0 rfl (lv_at hl 0 rfl) ?_
  refine lv_if_ne (tgt := 14) hx hb dX3_needState_1 (by decide) (fun c_1_1 => ?_) (fun c_1_1 => ?_)
  · skip
    refine vx_ret ?_
    refine W.widen (k := 1) (n := 6) (Nat.le_of_ble_eq_true rfl) (Nat.le_of_ble_eq_true rfl) ?_
    exact W.vret hx hb hr (fun t ht hW => ⟨rfl, by simp [okState, c_1_1], ht⟩) (fun _ h => by cases h) dX3_needState_14
  · skip
    exact vx_throwS (own := RX3) (cls := "java/lang/IllegalStateException") (text := "not in this state") (names := ["java/lang/RuntimeException", "java/lang/Exception"]) hx hb hl9 hown (by decide) (by decide) (hts _ (kc k_314)) (hts _ (kc k_30)) (hz.2.2.1 2 _ rfl) (vx_hat (fun w hw9 => hts w (kc (at_191 w hw9))) ab_191 (vx_c (va_Nw.use rfl (hz.2.2.2.1.1 _ (by decide))) (vx_c (va_Nw.use rfl (hz.2.2.2.1.2.1 _ (by decide))) (vx_c (va_Nw.use rfl (hz.2.2.2.1.2.1 _ (by decide))) (vx_c (va_Nw.use rfl (hz.2.2.2.1.2.1 _ (by decide))) vx_n))))) go_187_191 hz.1 hz.2.1 hS (hl.1.trans hml.symm) dX3_needState_4 dX3_needState_7 dX3_needState_8 dX3_needState_10 dX3_needState_13 (fun x hx9 => (hEx x hx9).elim) (Nat.le_of_ble_eq_true rfl) (Nat.le_of_ble_eq_true rfl) (Nat.le_of_ble_eq_true rfl) (Nat.le_of_ble_eq_true rfl) hlocks (fun t hvm h1 h2 => ⟨rfl, by simp [okState, c_1_1], h1, h2⟩) (fun _ h => by cases h) (Nat.le_of_ble_eq_true rfl) (Nat.le_of_ble_eq_true rfl)
