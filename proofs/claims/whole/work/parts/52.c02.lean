set_option maxHeartbeats 4000000 in
set_option maxRecDepth 100000 in
theorem lc_load {p : Program} {l : Launch} (hl9 : l.stackTraces = false) {e : Env} {s : State} {m : MethodId} {below : List Frame} {meth : Method} {c : Code} {dC : Nat → ClassId} {dI : Nat → Nat → Nat} {cI cZ cL : ClassId} {b L : Nat} {xs : Nat → Int32} (hL : L ≤ 3584) (C0 : lw_At p s m meth c b L xs) {zk : Nat → Nat} (hz : zz zk (lA s) s s.heap) (hK : va_K (dC, dI) vwCl (TY cI cZ cL) s) {a : Nat → Nat} {o : Nat} {d : Nat → Nat} {i : Nat} (hi : i + 7 ≤ L) {σ ρ : St} (hR : Rel σ ρ) {g : Nat → Int64} {H : Heap} {locs : List Loc} (hP : va_P (dC, dI) vwCl (LW cI cZ cL a o d σ g ρ) H) (hD : va_D (lA s) (LW cI cZ cL a o d σ g ρ)) (hS : va_S (lA s) s.heap H locs) {ls : Array Slot} (hl : lv_has ls 7 [(0, .ref b), (1, .ref (a 0)), (2, .ref (d 0)), (3, .ref o), (4, .int (nI i))]) {cells slots : Nat} (hcs : cells + 8 ≤ room_1.cells ∧ slots + 48 ≤ room_1.slots) (kk : ∀ (σ' ρ' : St) (g' : Nat → Int64) (H' : Heap) (locs' : List Loc) (ls' : Array Slot), Rel σ' ρ' → va_P (dC, dI) vwCl (LW cI cZ cL a o d σ' g' ρ') H' → va_D (lA s) (LW cI cZ cL a o d σ' g' ρ') → va_S (lA s) s.heap H' locs' → lv_has ls' 7 [(0, .ref b), (1, .ref (a 0)), (2, .ref (d 0)), (3, .ref o), (4, .int (nI i))] → W p l e room_1 s m #[Value.ref b] below meth c H' locs' (cells + 8) (slots + 48) (lw_Z below #[Value.ref b] s) (F0 m 1442 ls' [])) : W p l e room_1 s m #[Value.ref b] below meth c H locs cells slots (lw_Z below #[Value.ref b] s) (F0 m 734 ls []) := by
  obtain ⟨hx, hb, hr, hml, hown, hts, hX, hbl, hlocks, hgv⟩ := C0
  have hown : s.vm.findClass RL = some m.cls := hown
  have hA : ∀ q : Nat, s.heap.size ≤ q → lA s q := fun _ h => h
  have hbA : ¬ lA s b := Nat.not_le.mpr hbl
  have hKc : va_K (dC, dI) vwCl [(cI, .int), (cZ, .boolean)] s := hK.sub [0, 1] rfl
  refine lv_aload_n hx hb dL_law_734 rfl (lv_at hl 1 rfl) ?_
  refine lv_aload_n hx hb dL_law_735 rfl (lv_at hl 0 rfl) ?_
  refine lv_iload hx hb dL_law_736 (lv_at hl 4 rfl) ?_
  refine lv_iconst (v := 1) hx hb dL_law_738 (by decide) ?_
  refine lv_iadd hx hb dL_law_739 ?_
  refine va_sld hx hb hX hbl hbA hS (ivx (k := 1) (by decide) hi hL) dL_law_740 ?_
  refine lv_aload_n hx hb dL_law_741 rfl (lv_at hl 0 rfl) ?_
  refine lv_iload hx hb dL_law_742 (lv_at hl 4 rfl) ?_
  refine lv_iconst (v := 2) hx hb dL_law_744 (by decide) ?_
  refine lv_iadd hx hb dL_law_745 ?_
  refine va_sld hx hb hX hbl hbA hS (ivx (k := 2) (by decide) hi hL) dL_law_746 ?_
  have hPc := hP.sub (ws' := cw cI cZ a σ) [0, 1, 2, 3, 4, 5, 6, 7, 8, 9, 10, 11, 12, 13, 14, 15, 16, 17, 18, 19, 20, 21, 22, 23, 24, 25, 26] rfl
  have hDc := hD.sub (ws' := cw cI cZ a σ) [0, 1, 2, 3, 4, 5, 6, 7, 8, 9, 10, 11, 12, 13, 14, 15, 16, 17, 18, 19, 20, 21, 22, 23, 24, 25, 26] (by decide) rfl
  have hFc := va_free (wc := cw cI cZ a σ) hD hS hA [0, 1, 2, 3, 4, 5, 6, 7, 8, 9, 10, 11, 12, 13, 14, 15, 16, 17, 18, 19, 20, 21, 22, 23, 24, 25, 26] rfl
  refine va_calli (vx_runSW (As := [.ref (a 0), .int (xs (nI i + (1 : Int32)).toNatClampNeg), .int (xs (nI i + (2 : Int32)).toNatClampNeg)]) (rest := []) ⟨hx, hb, hml, hown, hts⟩ (m_L_load l hl9 dC dI cI cZ a zk H.size σ ((xs (nI i + (1 : Int32)).toNatClampNeg)) ((xs (nI i + (2 : Int32)).toNatClampNeg)) hR.2.1) (vx_cwSW 3 hts (gSL k_425 k_426 k_19 k_427) rfl rfl rfl (by decide +kernel) ⟨Nat.le_of_ble_eq_true rfl, Nat.le_of_ble_eq_true rfl⟩) (ps_pu hKc hPc hDc hz hS hFc) rfl rfl hl.1 rfl (lv_room (Nat.le_of_ble_eq_true rfl)) dL_law_747 ⟨by have := hcs.1; omega, by have := hcs.2; omega⟩) hS (fun q _ h => hFc q h) hFc (fun r1 u t H1 locs ht hvm hw hB hz1 hk1 hS => ?_)
  obtain ⟨hP1, hK1, hD1⟩ := hB
  rw [ht] at hP1
  obtain ⟨τ, hτ⟩ : ∃ z, z = u := ⟨_, rfl⟩
  subst hτ
  obtain ⟨hP2, hD2⟩ := va_join (wr := (o, .inl (cL, 1, .inr (.inl g))) :: rw cI cZ d ρ) (w1 := cw cI cZ a τ) hP hD [0, 1, 2, 3, 4, 5, 6, 7, 8, 9, 10, 11, 12, 13, 14, 15, 16, 17, 18, 19, 20, 21, 22, 23, 24, 25, 26] [27, 28, 29, 30, 31, 32, 33, 34, 35, 36, 37, 38, 39, 40, 41, 42, 43, 44, 45, 46, 47] rfl rfl (by decide) (by decide) hk1 hFc hP1 hD1
  have hP := hP2.sub (ws' := LW cI cZ cL a o d τ g ρ) [21, 22, 23, 24, 25, 26, 27, 28, 29, 30, 31, 32, 33, 34, 35, 36, 37, 38, 39, 40, 41, 42, 43, 44, 45, 46, 47, 0, 1, 2, 3, 4, 5, 6, 7, 8, 9, 10, 11, 12, 13, 14, 15, 16, 17, 18, 19, 20] rfl
  have hD := hD2.sub (ws' := LW cI cZ cL a o d τ g ρ) [21, 22, 23, 24, 25, 26, 27, 28, 29, 30, 31, 32, 33, 34, 35, 36, 37, 38, 39, 40, 41, 42, 43, 44, 45, 46, 47, 0, 1, 2, 3, 4, 5, 6, 7, 8, 9, 10, 11, 12, 13, 14, 15, 16, 17, 18, 19, 20] (by decide) rfl
  clear hPc hDc hFc hP2 hD2 hP1 hD1 hK1 hk1 hz1
  generalize H1 = H at hP hS ⊢
  refine W.widen (k := cells + 8) (n := slots + 48) (by omega) (by omega) ?_
  refine lv_istore (lv' := [(5, .int r1), (0, .ref b), (1, .ref (a 0)), (2, .ref (d 0)), (3, .ref o), (4, .int (nI i))]) hx hb dL_law_750 hl (by decide) rfl (fun ls hl => ?_)
  refine lv_aload_n hx hb dL_law_752 rfl (lv_at hl 3 rfl) ?_
  refine lv_aload_n hx hb dL_law_753 rfl (lv_at hl 1 rfl) ?_
  refine lv_iload hx hb dL_law_754 (lv_at hl 5 rfl) ?_
  refine lv_iconst (v := 1) hx hb dL_law_756 (by decide) ?_
  refine lv_iadd hx hb dL_law_757 ?_
  refine va_sld hx hb hX hbl hbA hS (ivx (k := 1) (by decide) hi hL) dL_law_758 ?_
  refine lv_aload_n hx hb dL_law_759 rfl (lv_at hl 1 rfl) ?_
  refine lv_iload hx hb dL_law_760 (lv_at hl 5 rfl) ?_
  refine lv_iconst (v := 2) hx hb dL_law_762 (by decide) ?_
  refine lv_iadd hx hb dL_law_763 ?_
  refine va_sld hx hb hX hbl hbA hS (ivx (k := 2) (by decide) hi hL) dL_law_764 ?_
  have hPc := hP.sub (ws' := rw cI cZ d ρ) [28, 29, 30, 31, 32, 33, 34, 35, 36, 37, 38, 39, 40, 41, 42, 43, 44, 45, 46, 47] rfl
  have hDc := hD.sub (ws' := rw cI cZ d ρ) [28, 29, 30, 31, 32, 33, 34, 35, 36, 37, 38, 39, 40, 41, 42, 43, 44, 45, 46, 47] (by decide) rfl
  have hFc := va_free (wc := rw cI cZ d ρ) hD hS hA [28, 29, 30, 31, 32, 33, 34, 35, 36, 37, 38, 39, 40, 41, 42, 43, 44, 45, 46, 47] rfl
  refine va_callv (va_runV (As := [.int (xs (nI i + (1 : Int32)).toNatClampNeg), .int (xs (nI i + (2 : Int32)).toNatClampNeg)]) (rest := []) ⟨hx, hb, hml, hown, hts⟩ (m_X4_load l dC dI cI cZ d H.size ρ ((xs (nI i + (1 : Int32)).toNatClampNeg)) ((xs (nI i + (2 : Int32)).toNatClampNeg)) hR.2.2.1) (cwV 2 hts (gVL k_715 k_716 k_717 k_24 k_718) rfl rfl rfl (by decide +kernel) ⟨Nat.le_of_ble_eq_true rfl, Nat.le_of_ble_eq_true rfl⟩) (pv_mr (q := (RX4, TX4, 23)) (q0 := 0) (ci := 4) hKc hPc hDc rfl rfl) rfl rfl hl.1 rfl (lv_room (Nat.le_of_ble_eq_true rfl)) dL_law_765 ⟨by have := hcs.1; omega, by have := hcs.2; omega⟩) hS (fun q _ h => hFc q h) hFc (fun ρ9 t H1 locs ht hvm hw2 hB hz1 hk1 hS => ?_)
  obtain ⟨hP1, hK1, hD1⟩ := hB
  rw [ht] at hP1
  obtain ⟨hP2, hD2⟩ := va_join (wr := ow cI cZ cL a o τ g) (w1 := rw cI cZ d ρ9) hP hD [28, 29, 30, 31, 32, 33, 34, 35, 36, 37, 38, 39, 40, 41, 42, 43, 44, 45, 46, 47] [0, 1, 2, 3, 4, 5, 6, 7, 8, 9, 10, 11, 12, 13, 14, 15, 16, 17, 18, 19, 20, 21, 22, 23, 24, 25, 26, 27] rfl rfl (by decide) (by decide) hk1 hFc hP1 hD1
  have hP : va_P (dC, dI) vwCl (LW cI cZ cL a o d τ g ρ9) H1 := hP2
  have hD : va_D (lA s) (LW cI cZ cL a o d τ g ρ9) := hD2
  clear hPc hDc hFc hP2 hD2 hP1 hD1 hK1 hk1 hz1
  generalize H1 = H at hP hS ⊢
  refine W.widen (k := cells + 8) (n := slots + 48) (by omega) (by omega) ?_
  have q := st_load hR ((xs (nI i + (1 : Int32)).toNatClampNeg)) ((xs (nI i + (2 : Int32)).toNatClampNeg))
  unfold stV at q
  rw [← hw, ← hw2] at q
  have q1 : Rel τ ρ9 := q.1
  have q2 : ρ9 0 0 = r1 := q.2
  clear q
  refine lv_aload_n hx hb dL_law_768 rfl (lv_at hl 3 rfl) ?_
  have hPc := hP.sub (ws' := rw cI cZ d ρ9) [28, 29, 30, 31, 32, 33, 34, 35, 36, 37, 38, 39, 40, 41, 42, 43, 44, 45, 46, 47] rfl
  refine vp_callSi (W.runV (As := []) (rest := []) ⟨hx, hb, hml, hown, hts⟩ (m_X4_thrown l dC dI cI cZ d ρ9) (cwV 0 hts (gVL k_641 k_642 k_643 k_24 k_644) rfl rfl rfl (by decide +kernel) ⟨Nat.le_of_ble_eq_true rfl, Nat.le_of_ble_eq_true rfl⟩) (pv_rr (q := (RX4, TX4, 23)) (q0 := 0) (ci := 4) hKc hPc rfl rfl) rfl rfl hl.1 rfl (lv_room (Nat.le_of_ble_eq_true rfl)) dL_law_769 ⟨by have := hcs.1; omega, by have := hcs.2; omega⟩) (fun r8 h8 => ?_)
  have h8 : r8 = r1 := h8.trans q2
  refine lv_iload hx hb dL_law_772 (lv_at hl 0 rfl) ?_
  refine lv_icmp_eq (tgt := 779) hx hb dL_law_774 (by decide) (fun c8 => ?_) (fun c8 => absurd h8 c8)
  refine lv_goto (tgt := 1442) hx hb dL_law_779 (by decide) ?_
  exact kk _ _ _ _ _ _ q1 hP hD hS (lv_sub hl [1, 2, 3, 4, 5] rfl)
set_option maxHeartbeats 4000000 in
set_option maxRecDepth 100000 in
theorem lc_recall_0 {p : Program} {l : Launch} (hl9 : l.stackTraces = false) {e : Env} {s : State} {m : MethodId} {below : List Frame} {meth : Method} {c : Code} {dC : Nat → ClassId} {dI : Nat → Nat → Nat} {cI cZ cL : ClassId} {b L : Nat} {xs : Nat → Int32} (hL : L ≤ 3584) (C0 : lw_At p s m meth c b L xs) {zk : Nat → Nat} (hz : zz zk (lA s) s s.heap) (hK : va_K (dC, dI) vwCl (TY cI cZ cL) s) {a : Nat → Nat} {o : Nat} {d : Nat → Nat} {i : Nat} (hi : i + 7 ≤ L) (hc : xs (nI i + (2 : Int32)).toNatClampNeg = 0) {σ ρ : St} (hR : Rel σ ρ) {g : Nat → Int64} {H : Heap} {locs : List Loc} (hP : va_P (dC, dI) vwCl (LW cI cZ cL a o d σ g ρ) H) (hD : va_D (lA s) (LW cI cZ cL a o d σ g ρ)) (hS : va_S (lA s) s.heap H locs) {ls : Array Slot} (hl : lv_has ls 7 [(0, .ref b), (1, .ref (a 0)), (2, .ref (d 0)), (3, .ref o), (4, .int (nI i))]) {cells slots : Nat} (hcs : cells + 8 ≤ room_1.cells ∧ slots + 48 ≤ room_1.slots) (kk : ∀ (σ' ρ' : St) (g' : Nat → Int64) (H' : Heap) (locs' : List Loc) (ls' : Array Slot), Rel σ' ρ' → va_P (dC, dI) vwCl (LW cI cZ cL a o d σ' g' ρ') H' → va_D (lA s) (LW cI cZ cL a o d σ' g' ρ') → va_S (lA s) s.heap H' locs' → lv_has ls' 7 [(0, .ref b), (1, .ref (a 0)), (2, .ref (d 0)), (3, .ref o), (4, .int (nI i))] → W p l e room_1 s m #[Value.ref b] below meth c H' locs' (cells + 8) (slots + 48) (lw_Z below #[Value.ref b] s) (F0 m 1442 ls' [])) : W p l e room_1 s m #[Value.ref b] below meth c H locs cells slots (lw_Z below #[Value.ref b] s) (F0 m 782 ls []) := by
  obtain ⟨hx, hb, hr, hml, hown, hts, hX, hbl, hlocks, hgv⟩ := C0
  have hown : s.vm.findClass RL = some m.cls := hown
  have hA : ∀ q : Nat, s.heap.size ≤ q → lA s q := fun _ h => h
  have hbA : ¬ lA s b := Nat.not_le.mpr hbl
  have hKc : va_K (dC, dI) vwCl [(cI, .int), (cZ, .boolean)] s := hK.sub [0, 1] rfl
  refine lv_aload_n hx hb dL_law_782 rfl (lv_at hl 1 rfl) ?_
  refine lv_aload_n hx hb dL_law_783 rfl (lv_at hl 0 rfl) ?_
  refine lv_iload hx hb dL_law_784 (lv_at hl 4 rfl) ?_
  refine lv_iconst (v := 1) hx hb dL_law_786 (by decide) ?_
  refine lv_iadd hx hb dL_law_787 ?_
  refine va_sld hx hb hX hbl hbA hS (ivx (k := 1) (by decide) hi hL) dL_law_788 ?_
  refine lv_aload_n hx hb dL_law_789 rfl (lv_at hl 0 rfl) ?_
  refine lv_iload hx hb dL_law_790 (lv_at hl 4 rfl) ?_
  refine lv_iconst (v := 2) hx hb dL_law_792 (by decide) ?_
  refine lv_iadd hx hb dL_law_793 ?_
  refine va_sld hx hb hX hbl hbA hS (ivx (k := 2) (by decide) hi hL) dL_law_794 ?_
  refine lv_if_eq (tgt := 802) hx hb dL_law_795 (by decide) (fun c9 => ?_) (fun c9 => absurd hc c9)
  refine lv_iconst (v := 0) hx hb dL_law_802 (by decide) ?_
  refine lv_aload_n hx hb dL_law_803 rfl (lv_at hl 3 rfl) ?_
  have hPc := hP.sub (ws' := ow cI cZ cL a o σ g) [0, 1, 2, 3, 4, 5, 6, 7, 8, 9, 10, 11, 12, 13, 14, 15, 16, 17, 18, 19, 20, 21, 22, 23, 24, 25, 26, 27] rfl
  have hDc := hD.sub (ws' := ow cI cZ cL a o σ g) [0, 1, 2, 3, 4, 5, 6, 7, 8, 9, 10, 11, 12, 13, 14, 15, 16, 17, 18, 19, 20, 21, 22, 23, 24, 25, 26, 27] (by decide) rfl
  have hFc := va_free (wc := ow cI cZ cL a o σ g) hD hS hA [0, 1, 2, 3, 4, 5, 6, 7, 8, 9, 10, 11, 12, 13, 14, 15, 16, 17, 18, 19, 20, 21, 22, 23, 24, 25, 26, 27] rfl
  refine va_calli (vx_runSW (As := [.ref (a 0), .int (xs (nI i + (1 : Int32)).toNatClampNeg), .int (0 : Int32), .ref o]) (rest := []) ⟨hx, hb, hml, hown, hts⟩ (m_L_recall l hl9 dC dI cI cZ cL a o zk H.size σ g ((xs (nI i + (1 : Int32)).toNatClampNeg)) ((0 : Int32)) hR.2.1) (vx_cwSW 4 hts (gSL k_432 k_433 k_19 k_434) rfl rfl rfl (by decide +kernel) ⟨Nat.le_of_ble_eq_true rfl, Nat.le_of_ble_eq_true rfl⟩) (ps_ou hK hPc hDc hz hS hFc) rfl rfl hl.1 rfl (lv_room (Nat.le_of_ble_eq_true rfl)) dL_law_804 ⟨by have := hcs.1; omega, by have := hcs.2; omega⟩) hS (fun q _ h => hFc q h) hFc (fun r1 u t H1 locs ht hvm hw hB hz1 hk1 hS => ?_)
  obtain ⟨hP1, hK1, hD1⟩ := hB
  rw [ht] at hP1
  obtain ⟨τ, g1⟩ := u
  obtain ⟨hP2, hD2⟩ := va_join (wr := rw cI cZ d ρ) (w1 := ow cI cZ cL a o τ g1) hP hD [0, 1, 2, 3, 4, 5, 6, 7, 8, 9, 10, 11, 12, 13, 14, 15, 16, 17, 18, 19, 20, 21, 22, 23, 24, 25, 26, 27] [28, 29, 30, 31, 32, 33, 34, 35, 36, 37, 38, 39, 40, 41, 42, 43, 44, 45, 46, 47] rfl rfl (by decide) (by decide) hk1 hFc hP1 hD1
  have hP := hP2.sub (ws' := LW cI cZ cL a o d τ g1 ρ) [20, 21, 22, 23, 24, 25, 26, 27, 28, 29, 30, 31, 32, 33, 34, 35, 36, 37, 38, 39, 40, 41, 42, 43, 44, 45, 46, 47, 0, 1, 2, 3, 4, 5, 6, 7, 8, 9, 10, 11, 12, 13, 14, 15, 16, 17, 18, 19] rfl
  have hD := hD2.sub (ws' := LW cI cZ cL a o d τ g1 ρ) [20, 21, 22, 23, 24, 25, 26, 27, 28, 29, 30, 31, 32, 33, 34, 35, 36, 37, 38, 39, 40, 41, 42, 43, 44, 45, 46, 47, 0, 1, 2, 3, 4, 5, 6, 7, 8, 9, 10, 11, 12, 13, 14, 15, 16, 17, 18, 19] (by decide) rfl
  clear hPc hDc hFc hP2 hD2 hP1 hD1 hK1 hk1 hz1
  generalize H1 = H at hP hS ⊢
  refine W.widen (k := cells + 8) (n := slots + 48) (by omega) (by omega) ?_
  refine lv_istore (lv' := [(5, .int r1), (0, .ref b), (1, .ref (a 0)), (2, .ref (d 0)), (3, .ref o), (4, .int (nI i))]) hx hb dL_law_807 hl (by decide) rfl (fun ls hl => ?_)
  refine lv_aload_n hx hb dL_law_809 rfl (lv_at hl 3 rfl) ?_
  refine lv_aload_n hx hb dL_law_810 rfl (lv_at hl 1 rfl) ?_
  refine lv_iload hx hb dL_law_811 (lv_at hl 5 rfl) ?_
  refine lv_iconst (v := 1) hx hb dL_law_813 (by decide) ?_
  refine lv_iadd hx hb dL_law_814 ?_
  refine va_sld hx hb hX hbl hbA hS (ivx (k := 1) (by decide) hi hL) dL_law_815 ?_
  refine lv_aload_n hx hb dL_law_816 rfl (lv_at hl 1 rfl) ?_
  refine lv_iload hx hb dL_law_817 (lv_at hl 5 rfl) ?_
  refine lv_iconst (v := 2) hx hb dL_law_819 (by decide) ?_
  refine lv_iadd hx hb dL_law_820 ?_
  refine va_sld hx hb hX hbl hbA hS (ivx (k := 2) (by decide) hi hL) dL_law_821 ?_
  refine lv_if_eq (tgt := 829) hx hb dL_law_822 (by decide) (fun c9 => ?_) (fun c9 => absurd hc c9)
  refine lv_iconst (v := 0) hx hb dL_law_829 (by decide) ?_
  have hPc := hP.sub (ws' := rw cI cZ d ρ) [28, 29, 30, 31, 32, 33, 34, 35, 36, 37, 38, 39, 40, 41, 42, 43, 44, 45, 46, 47] rfl
  have hDc := hD.sub (ws' := rw cI cZ d ρ) [28, 29, 30, 31, 32, 33, 34, 35, 36, 37, 38, 39, 40, 41, 42, 43, 44, 45, 46, 47] (by decide) rfl
  have hFc := va_free (wc := rw cI cZ d ρ) hD hS hA [28, 29, 30, 31, 32, 33, 34, 35, 36, 37, 38, 39, 40, 41, 42, 43, 44, 45, 46, 47] rfl
  refine va_calli (va_runV (As := [.int (xs (nI i + (1 : Int32)).toNatClampNeg), .int (0 : Int32)]) (rest := []) ⟨hx, hb, hml, hown, hts⟩ (m_X4_recall l dC dI cI cZ d H.size ρ ((xs (nI i + (1 : Int32)).toNatClampNeg)) ((0 : Int32)) hR.2.2.1) (cwV 2 hts (gVL k_719 k_720 k_721 k_24 k_722) rfl rfl rfl (by decide +kernel) ⟨Nat.le_of_ble_eq_true rfl, Nat.le_of_ble_eq_true rfl⟩) (pv_mr (q := (RX4, TX4, 23)) (q0 := 0) (ci := 4) hKc hPc hDc rfl rfl) rfl rfl hl.1 rfl (lv_room (Nat.le_of_ble_eq_true rfl)) dL_law_830 ⟨by have := hcs.1; omega, by have := hcs.2; omega⟩) hS (fun q _ h => hFc q h) hFc (fun r2 ρ9 t H1 locs ht hvm hw2 hB hz1 hk1 hS => ?_)
  obtain ⟨hP1, hK1, hD1⟩ := hB
  rw [ht] at hP1
  obtain ⟨hP2, hD2⟩ := va_join (wr := ow cI cZ cL a o τ g1) (w1 := rw cI cZ d ρ9) hP hD [28, 29, 30, 31, 32, 33, 34, 35, 36, 37, 38, 39, 40, 41, 42, 43, 44, 45, 46, 47] [0, 1, 2, 3, 4, 5, 6, 7, 8, 9, 10, 11, 12, 13, 14, 15, 16, 17, 18, 19, 20, 21, 22, 23, 24, 25, 26, 27] rfl rfl (by decide) (by decide) hk1 hFc hP1 hD1
  have hP : va_P (dC, dI) vwCl (LW cI cZ cL a o d τ g1 ρ9) H1 := hP2
  have hD : va_D (lA s) (LW cI cZ cL a o d τ g1 ρ9) := hD2
  clear hPc hDc hFc hP2 hD2 hP1 hD1 hK1 hk1 hz1
  generalize H1 = H at hP hS ⊢
  refine W.widen (k := cells + 8) (n := slots + 48) (by omega) (by omega) ?_
  have q := st_recall hR ((xs (nI i + (1 : Int32)).toNatClampNeg)) ((0 : Int32))
  unfold stO at q
  have q := q g
  rw [← hw, ← hw2] at q
  have q1 : Rel τ ρ9 := q.1
  have q2 : ρ9 0 0 = r1 := q.2.1
  have q3 : r1 = 0 → g1 0 = r2.toInt64 := q.2.2
  clear q
  refine lv_istore (lv' := [(6, .int r2), (5, .int r1), (0, .ref b), (1, .ref (a 0)), (2, .ref (d 0)), (3, .ref o), (4, .int (nI i))]) hx hb dL_law_833 hl (by decide) rfl (fun ls hl => ?_)
  refine lv_aload_n hx hb dL_law_835 rfl (lv_at hl 4 rfl) ?_
  have hPc := hP.sub (ws' := rw cI cZ d ρ9) [28, 29, 30, 31, 32, 33, 34, 35, 36, 37, 38, 39, 40, 41, 42, 43, 44, 45, 46, 47] rfl
  refine vp_callSi (W.runV (As := []) (rest := []) ⟨hx, hb, hml, hown, hts⟩ (m_X4_thrown l dC dI cI cZ d ρ9) (cwV 0 hts (gVL k_641 k_642 k_643 k_24 k_644) rfl rfl rfl (by decide +kernel) ⟨Nat.le_of_ble_eq_true rfl, Nat.le_of_ble_eq_true rfl⟩) (pv_rr (q := (RX4, TX4, 23)) (q0 := 0) (ci := 4) hKc hPc rfl rfl) rfl rfl hl.1 rfl (lv_room (Nat.le_of_ble_eq_true rfl)) dL_law_836 ⟨by have := hcs.1; omega, by have := hcs.2; omega⟩) (fun r8 h8 => ?_)
  have h8 : r8 = r1 := h8.trans q2
  refine lv_iload hx hb dL_law_839 (lv_at hl 1 rfl) ?_
  refine lv_icmp_eq (tgt := 846) hx hb dL_law_841 (by decide) (fun c8 => ?_) (fun c8 => absurd h8 c8)
  have fin : W p l e room_1 s m #[Value.ref b] below meth c H locs (cells + 8) (slots + 48) (lw_Z below #[Value.ref b] s) (F0 m 863 ls []) := by
    refine lv_goto (tgt := 1442) hx hb dL_law_863 (by decide) ?_
    exact kk _ _ _ _ _ _ q1 hP hD hS (lv_sub hl [2, 3, 4, 5, 6] rfl)
  refine lv_iload hx hb dL_law_846 (lv_at hl 1 rfl) ?_
  refine lv_if_ne (tgt := 863) hx hb dL_law_848 (by decide) (fun _ => fin) (fun c7 => ?_)
  refine lv_aload_n hx hb dL_law_851 rfl (lv_at hl 5 rfl) ?_
  refine lv_iconst (v := 0) hx hb dL_law_852 (by decide) ?_
  refine va_lald (D := (dC, dI)) (f := g1) hx hb hK hP 27 2 rfl rfl (i := 0) (vp_lit 0 (by decide)) dL_law_853 ?_
  refine lv_iload hx hb dL_law_854 (lv_at hl 0 rfl) ?_
  refine lv_i2l hx hb dL_law_856 rfl ?_
  refine W.lcmp hx hb dL_law_857 ?_
  refine lv_if_eq (tgt := 863) hx hb dL_law_858 (by decide) (fun _ => fin) (fun c6 => absurd (lg_0 (q3 c7)) c6)
set_option maxHeartbeats 4000000 in
set_option maxRecDepth 100000 in
theorem lc_recall_1 {p : Program} {l : Launch} (hl9 : l.stackTraces = false) {e : Env} {s : State} {m : MethodId} {below : List Frame} {meth : Method} {c : Code} {dC : Nat → ClassId} {dI : Nat → Nat → Nat} {cI cZ cL : ClassId} {b L : Nat} {xs : Nat → Int32} (hL : L ≤ 3584) (C0 : lw_At p s m meth c b L xs) {zk : Nat → Nat} (hz : zz zk (lA s) s s.heap) (hK : va_K (dC, dI) vwCl (TY cI cZ cL) s) {a : Nat → Nat} {o : Nat} {d : Nat → Nat} {i : Nat} (hi : i + 7 ≤ L) (hc : ¬ xs (nI i + (2 : Int32)).toNatClampNeg = 0) {σ ρ : St} (hR : Rel σ ρ) {g : Nat → Int64} {H : Heap} {locs : List Loc} (hP : va_P (dC, dI) vwCl (LW cI cZ cL a o d σ g ρ) H) (hD : va_D (lA s) (LW cI cZ cL a o d σ g ρ)) (hS : va_S (lA s) s.heap H locs) {ls : Array Slot} (hl : lv_has ls 7 [(0, .ref b), (1, .ref (a 0)), (2, .ref (d 0)), (3, .ref o), (4, .int (nI i))]) {cells slots : Nat} (hcs : cells + 8 ≤ room_1.cells ∧ slots + 48 ≤ room_1.slots) (kk : ∀ (σ' ρ' : St) (g' : Nat → Int64) (H' : Heap) (locs' : List Loc) (ls' : Array Slot), Rel σ' ρ' → va_P (dC, dI) vwCl (LW cI cZ cL a o d σ' g' ρ') H' → va_D (lA s) (LW cI cZ cL a o d σ' g' ρ') → va_S (lA s) s.heap H' locs' → lv_has ls' 7 [(0, .ref b), (1, .ref (a 0)), (2, .ref (d 0)), (3, .ref o), (4, .int (nI i))] → W p l e room_1 s m #[Value.ref b] below meth c H' locs' (cells + 8) (slots + 48) (lw_Z below #[Value.ref b] s) (F0 m 1442 ls' [])) : W p l e room_1 s m #[Value.ref b] below meth c H locs cells slots (lw_Z below #[Value.ref b] s) (F0 m 782 ls []) := by
  obtain ⟨hx, hb, hr, hml, hown, hts, hX, hbl, hlocks, hgv⟩ := C0
  have hown : s.vm.findClass RL = some m.cls := hown
  have hA : ∀ q : Nat, s.heap.size ≤ q → lA s q := fun _ h => h
  have hbA : ¬ lA s b := Nat.not_le.mpr hbl
  have hKc : va_K (dC, dI) vwCl [(cI, .int), (cZ, .boolean)] s := hK.sub [0, 1] rfl
  refine lv_aload_n hx hb dL_law_782 rfl (lv_at hl 1 rfl) ?_
  refine lv_aload_n hx hb dL_law_783 rfl (lv_at hl 0 rfl) ?_
  refine lv_iload hx hb dL_law_784 (lv_at hl 4 rfl) ?_
  refine lv_iconst (v := 1) hx hb dL_law_786 (by decide) ?_
  refine lv_iadd hx hb dL_law_787 ?_
  refine va_sld hx hb hX hbl hbA hS (ivx (k := 1) (by decide) hi hL) dL_law_788 ?_
  refine lv_aload_n hx hb dL_law_789 rfl (lv_at hl 0 rfl) ?_
  refine lv_iload hx hb dL_law_790 (lv_at hl 4 rfl) ?_
  refine lv_iconst (v := 2) hx hb dL_law_792 (by decide) ?_
  refine lv_iadd hx hb dL_law_793 ?_
  refine va_sld hx hb hX hbl hbA hS (ivx (k := 2) (by decide) hi hL) dL_law_794 ?_
  refine lv_if_eq (tgt := 802) hx hb dL_law_795 (by decide) (fun c9 => absurd c9 hc) (fun c9 => ?_)
  refine lv_iconst (v := 1) hx hb dL_law_798 (by decide) ?_
  refine lv_goto (tgt := 803) hx hb dL_law_799 (by decide) ?_
  refine lv_aload_n hx hb dL_law_803 rfl (lv_at hl 3 rfl) ?_
  have hPc := hP.sub (ws' := ow cI cZ cL a o σ g) [0, 1, 2, 3, 4, 5, 6, 7, 8, 9, 10, 11, 12, 13, 14, 15, 16, 17, 18, 19, 20, 21, 22, 23, 24, 25, 26, 27] rfl
  have hDc := hD.sub (ws' := ow cI cZ cL a o σ g) [0, 1, 2, 3, 4, 5, 6, 7, 8, 9, 10, 11, 12, 13, 14, 15, 16, 17, 18, 19, 20, 21, 22, 23, 24, 25, 26, 27] (by decide) rfl
  have hFc := va_free (wc := ow cI cZ cL a o σ g) hD hS hA [0, 1, 2, 3, 4, 5, 6, 7, 8, 9, 10, 11, 12, 13, 14, 15, 16, 17, 18, 19, 20, 21, 22, 23, 24, 25, 26, 27] rfl
  refine va_calli (vx_runSW (As := [.ref (a 0), .int (xs (nI i + (1 : Int32)).toNatClampNeg), .int (1 : Int32), .ref o]) (rest := []) ⟨hx, hb, hml, hown, hts⟩ (m_L_recall l hl9 dC dI cI cZ cL a o zk H.size σ g ((xs (nI i + (1 : Int32)).toNatClampNeg)) ((1 : Int32)) hR.2.1) (vx_cwSW 4 hts (gSL k_432 k_433 k_19 k_434) rfl rfl rfl (by decide +kernel) ⟨Nat.le_of_ble_eq_true rfl, Nat.le_of_ble_eq_true rfl⟩) (ps_ou hK hPc hDc hz hS hFc) rfl rfl hl.1 rfl (lv_room (Nat.le_of_ble_eq_true rfl)) dL_law_804 ⟨by have := hcs.1; omega, by have := hcs.2; omega⟩) hS (fun q _ h => hFc q h) hFc (fun r1 u t H1 locs ht hvm hw hB hz1 hk1 hS => ?_)
  obtain ⟨hP1, hK1, hD1⟩ := hB
  rw [ht] at hP1
  obtain ⟨τ, g1⟩ := u
  obtain ⟨hP2, hD2⟩ := va_join (wr := rw cI cZ d ρ) (w1 := ow cI cZ cL a o τ g1) hP hD [0, 1, 2, 3, 4, 5, 6, 7, 8, 9, 10, 11, 12, 13, 14, 15, 16, 17, 18, 19, 20, 21, 22, 23, 24, 25, 26, 27] [28, 29, 30, 31, 32, 33, 34, 35, 36, 37, 38, 39, 40, 41, 42, 43, 44, 45, 46, 47] rfl rfl (by decide) (by decide) hk1 hFc hP1 hD1
  have hP := hP2.sub (ws' := LW cI cZ cL a o d τ g1 ρ) [20, 21, 22, 23, 24, 25, 26, 27, 28, 29, 30, 31, 32, 33, 34, 35, 36, 37, 38, 39, 40, 41, 42, 43, 44, 45, 46, 47, 0, 1, 2, 3, 4, 5, 6, 7, 8, 9, 10, 11, 12, 13, 14, 15, 16, 17, 18, 19] rfl
  have hD := hD2.sub (ws' := LW cI cZ cL a o d τ g1 ρ) [20, 21, 22, 23, 24, 25, 26, 27, 28, 29, 30, 31, 32, 33, 34, 35, 36, 37, 38, 39, 40, 41, 42, 43, 44, 45, 46, 47, 0, 1, 2, 3, 4, 5, 6, 7, 8, 9, 10, 11, 12, 13, 14, 15, 16, 17, 18, 19] (by decide) rfl
  clear hPc hDc hFc hP2 hD2 hP1 hD1 hK1 hk1 hz1
  generalize H1 = H at hP hS ⊢
  refine W.widen (k := cells + 8) (n := slots + 48) (by omega) (by omega) ?_
  refine lv_istore (lv' := [(5, .int r1), (0, .ref b), (1, .ref (a 0)), (2, .ref (d 0)), (3, .ref o), (4, .int (nI i))]) hx hb dL_law_807 hl (by decide) rfl (fun ls hl => ?_)
  refine lv_aload_n hx hb dL_law_809 rfl (lv_at hl 3 rfl) ?_
  refine lv_aload_n hx hb dL_law_810 rfl (lv_at hl 1 rfl) ?_
  refine lv_iload hx hb dL_law_811 (lv_at hl 5 rfl) ?_
  refine lv_iconst (v := 1) hx hb dL_law_813 (by decide) ?_
  refine lv_iadd hx hb dL_law_814 ?_
  refine va_sld hx hb hX hbl hbA hS (ivx (k := 1) (by decide) hi hL) dL_law_815 ?_
  refine lv_aload_n hx hb dL_law_816 rfl (lv_at hl 1 rfl) ?_
  refine lv_iload hx hb dL_law_817 (lv_at hl 5 rfl) ?_
  refine lv_iconst (v := 2) hx hb dL_law_819 (by decide) ?_
  refine lv_iadd hx hb dL_law_820 ?_
  refine va_sld hx hb hX hbl hbA hS (ivx (k := 2) (by decide) hi hL) dL_law_821 ?_
  refine lv_if_eq (tgt := 829) hx hb dL_law_822 (by decide) (fun c9 => absurd c9 hc) (fun c9 => ?_)
  refine lv_iconst (v := 1) hx hb dL_law_825 (by decide) ?_
  refine lv_goto (tgt := 830) hx hb dL_law_826 (by decide) ?_
  have hPc := hP.sub (ws' := rw cI cZ d ρ) [28, 29, 30, 31, 32, 33, 34, 35, 36, 37, 38, 39, 40, 41, 42, 43, 44, 45, 46, 47] rfl
  have hDc := hD.sub (ws' := rw cI cZ d ρ) [28, 29, 30, 31, 32, 33, 34, 35, 36, 37, 38, 39, 40, 41, 42, 43, 44, 45, 46, 47] (by decide) rfl
  have hFc := va_free (wc := rw cI cZ d ρ) hD hS hA [28, 29, 30, 31, 32, 33, 34, 35, 36, 37, 38, 39, 40, 41, 42, 43, 44, 45, 46, 47] rfl
  refine va_calli (va_runV (As := [.int (xs (nI i + (1 : Int32)).toNatClampNeg), .int (1 : Int32)]) (rest := []) ⟨hx, hb, hml, hown, hts⟩ (m_X4_recall l dC dI cI cZ d H.size ρ ((xs (nI i + (1 : Int32)).toNatClampNeg)) ((1 : Int32)) hR.2.2.1) (cwV 2 hts (gVL k_719 k_720 k_721 k_24 k_722) rfl rfl rfl (by decide +kernel) ⟨Nat.le_of_ble_eq_true rfl, Nat.le_of_ble_eq_true rfl⟩) (pv_mr (q := (RX4, TX4, 23)) (q0 := 0) (ci := 4) hKc hPc hDc rfl rfl) rfl rfl hl.1 rfl (lv_room (Nat.le_of_ble_eq_true rfl)) dL_law_830 ⟨by have := hcs.1; omega, by have := hcs.2; omega⟩) hS (fun q _ h => hFc q h) hFc (fun r2 ρ9 t H1 locs ht hvm hw2 hB hz1 hk1 hS => ?_)
  obtain ⟨hP1, hK1, hD1⟩ := hB
  rw [ht] at hP1
  obtain ⟨hP2, hD2⟩ := va_join (wr := ow cI cZ cL a o τ g1) (w1 := rw cI cZ d ρ9) hP hD [28, 29, 30, 31, 32, 33, 34, 35, 36, 37, 38, 39, 40, 41, 42, 43, 44, 45, 46, 47] [0, 1, 2, 3, 4, 5, 6, 7, 8, 9, 10, 11, 12, 13, 14, 15, 16, 17, 18, 19, 20, 21, 22, 23, 24, 25, 26, 27] rfl rfl (by decide) (by decide) hk1 hFc hP1 hD1
  have hP : va_P (dC, dI) vwCl (LW cI cZ cL a o d τ g1 ρ9) H1 := hP2
  have hD : va_D (lA s) (LW cI cZ cL a o d τ g1 ρ9) := hD2
  clear hPc hDc hFc hP2 hD2 hP1 hD1 hK1 hk1 hz1
  generalize H1 = H at hP hS ⊢
  refine W.widen (k := cells + 8) (n := slots + 48) (by omega) (by omega) ?_
  have q := st_recall hR ((xs (nI i + (1 : Int32)).toNatClampNeg)) ((1 : Int32))
  unfold stO at q
  have q := q g
  rw [← hw, ← hw2] at q
  have q1 : Rel τ ρ9 := q.1
  have q2 : ρ9 0 0 = r1 := q.2.1
  have q3 : r1 = 0 → g1 0 = r2.toInt64 := q.2.2
  clear q
  refine lv_istore (lv' := [(6, .int r2), (5, .int r1), (0, .ref b), (1, .ref (a 0)), (2, .ref (d 0)), (3, .ref o), (4, .int (nI i))]) hx hb dL_law_833 hl (by decide) rfl (fun ls hl => ?_)
  refine lv_aload_n hx hb dL_law_835 rfl (lv_at hl 4 rfl) ?_
  have hPc := hP.sub (ws' := rw cI cZ d ρ9) [28, 29, 30, 31, 32, 33, 34, 35, 36, 37, 38, 39, 40, 41, 42, 43, 44, 45, 46, 47] rfl
  refine vp_callSi (W.runV (As := []) (rest := []) ⟨hx, hb, hml, hown, hts⟩ (m_X4_thrown l dC dI cI cZ d ρ9) (cwV 0 hts (gVL k_641 k_642 k_643 k_24 k_644) rfl rfl rfl (by decide +kernel) ⟨Nat.le_of_ble_eq_true rfl, Nat.le_of_ble_eq_true rfl⟩) (pv_rr (q := (RX4, TX4, 23)) (q0 := 0) (ci := 4) hKc hPc rfl rfl) rfl rfl hl.1 rfl (lv_room (Nat.le_of_ble_eq_true rfl)) dL_law_836 ⟨by have := hcs.1; omega, by have := hcs.2; omega⟩) (fun r8 h8 => ?_)
  have h8 : r8 = r1 := h8.trans q2
  refine lv_iload hx hb dL_law_839 (lv_at hl 1 rfl) ?_
  refine lv_icmp_eq (tgt := 846) hx hb dL_law_841 (by decide) (fun c8 => ?_) (fun c8 => absurd h8 c8)
  have fin : W p l e room_1 s m #[Value.ref b] below meth c H locs (cells + 8) (slots + 48) (lw_Z below #[Value.ref b] s) (F0 m 863 ls []) := by
    refine lv_goto (tgt := 1442) hx hb dL_law_863 (by decide) ?_
    exact kk _ _ _ _ _ _ q1 hP hD hS (lv_sub hl [2, 3, 4, 5, 6] rfl)
  refine lv_iload hx hb dL_law_846 (lv_at hl 1 rfl) ?_
  refine lv_if_ne (tgt := 863) hx hb dL_law_848 (by decide) (fun _ => fin) (fun c7 => ?_)
  refine lv_aload_n hx hb dL_law_851 rfl (lv_at hl 5 rfl) ?_
  refine lv_iconst (v := 0) hx hb dL_law_852 (by decide) ?_
  refine va_lald (D := (dC, dI)) (f := g1) hx hb hK hP 27 2 rfl rfl (i := 0) (vp_lit 0 (by decide)) dL_law_853 ?_
  refine lv_iload hx hb dL_law_854 (lv_at hl 0 rfl) ?_
  refine lv_i2l hx hb dL_law_856 rfl ?_
  refine W.lcmp hx hb dL_law_857 ?_
  refine lv_if_eq (tgt := 863) hx hb dL_law_858 (by decide) (fun _ => fin) (fun c6 => absurd (lg_0 (q3 c7)) c6)
set_option maxHeartbeats 4000000 in
set_option maxRecDepth 100000 in
theorem lc_recalled {p : Program} {l : Launch} (hl9 : l.stackTraces = false) {e : Env} {s : State} {m : MethodId} {below : List Frame} {meth : Method} {c : Code} {dC : Nat → ClassId} {dI : Nat → Nat → Nat} {cI cZ cL : ClassId} {b L : Nat} {xs : Nat → Int32} (hL : L ≤ 3584) (C0 : lw_At p s m meth c b L xs) {zk : Nat → Nat} (hz : zz zk (lA s) s s.heap) (hK : va_K (dC, dI) vwCl (TY cI cZ cL) s) {a : Nat → Nat} {o : Nat} {d : Nat → Nat} {i : Nat} (hi : i + 7 ≤ L) {σ ρ : St} (hR : Rel σ ρ) {g : Nat → Int64} {H : Heap} {locs : List Loc} (hP : va_P (dC, dI) vwCl (LW cI cZ cL a o d σ g ρ) H) (hD : va_D (lA s) (LW cI cZ cL a o d σ g ρ)) (hS : va_S (lA s) s.heap H locs) {ls : Array Slot} (hl : lv_has ls 7 [(0, .ref b), (1, .ref (a 0)), (2, .ref (d 0)), (3, .ref o), (4, .int (nI i))]) {cells slots : Nat} (hcs : cells + 8 ≤ room_1.cells ∧ slots + 48 ≤ room_1.slots) (kk : ∀ (σ' ρ' : St) (g' : Nat → Int64) (H' : Heap) (locs' : List Loc) (ls' : Array Slot), Rel σ' ρ' → va_P (dC, dI) vwCl (LW cI cZ cL a o d σ' g' ρ') H' → va_D (lA s) (LW cI cZ cL a o d σ' g' ρ') → va_S (lA s) s.heap H' locs' → lv_has ls' 7 [(0, .ref b), (1, .ref (a 0)), (2, .ref (d 0)), (3, .ref o), (4, .int (nI i))] → W p l e room_1 s m #[Value.ref b] below meth c H' locs' (cells + 8) (slots + 48) (lw_Z below #[Value.ref b] s) (F0 m 1442 ls' [])) : W p l e room_1 s m #[Value.ref b] below meth c H locs cells slots (lw_Z below #[Value.ref b] s) (F0 m 866 ls []) := by
  obtain ⟨hx, hb, hr, hml, hown, hts, hX, hbl, hlocks, hgv⟩ := C0
  have hown : s.vm.findClass RL = some m.cls := hown
  have hA : ∀ q : Nat, s.heap.size ≤ q → lA s q := fun _ h => h
  have hbA : ¬ lA s b := Nat.not_le.mpr hbl
  have hKc : va_K (dC, dI) vwCl [(cI, .int), (cZ, .boolean)] s := hK.sub [0, 1] rfl
  refine lv_aload_n hx hb dL_law_866 rfl (lv_at hl 1 rfl) ?_
  refine lv_aload_n hx hb dL_law_867 rfl (lv_at hl 0 rfl) ?_
  refine lv_iload hx hb dL_law_868 (lv_at hl 4 rfl) ?_
  refine lv_iconst (v := 1) hx hb dL_law_870 (by decide) ?_
  refine lv_iadd hx hb dL_law_871 ?_
  refine va_sld hx hb hX hbl hbA hS (ivx (k := 1) (by decide) hi hL) dL_law_872 ?_
  refine lv_aload_n hx hb dL_law_873 rfl (lv_at hl 0 rfl) ?_
  refine lv_iload hx hb dL_law_874 (lv_at hl 4 rfl) ?_
  refine lv_iconst (v := 2) hx hb dL_law_876 (by decide) ?_
  refine lv_iadd hx hb dL_law_877 ?_
  refine va_sld hx hb hX hbl hbA hS (ivx (k := 2) (by decide) hi hL) dL_law_878 ?_
  refine lv_aload_n hx hb dL_law_879 rfl (lv_at hl 3 rfl) ?_
  have hPc := hP.sub (ws' := ow cI cZ cL a o σ g) [0, 1, 2, 3, 4, 5, 6, 7, 8, 9, 10, 11, 12, 13, 14, 15, 16, 17, 18, 19, 20, 21, 22, 23, 24, 25, 26, 27] rfl
  have hDc := hD.sub (ws' := ow cI cZ cL a o σ g) [0, 1, 2, 3, 4, 5, 6, 7, 8, 9, 10, 11, 12, 13, 14, 15, 16, 17, 18, 19, 20, 21, 22, 23, 24, 25, 26, 27] (by decide) rfl
  have hFc := va_free (wc := ow cI cZ cL a o σ g) hD hS hA [0, 1, 2, 3, 4, 5, 6, 7, 8, 9, 10, 11, 12, 13, 14, 15, 16, 17, 18, 19, 20, 21, 22, 23, 24, 25, 26, 27] rfl
  refine va_calli (vx_runSW (As := [.ref (a 0), .int (xs (nI i + (1 : Int32)).toNatClampNeg), .int (xs (nI i + (2 : Int32)).toNatClampNeg), .ref o]) (rest := []) ⟨hx, hb, hml, hown, hts⟩ (m_L_recalled l hl9 dC dI cI cZ cL a o zk H.size σ g ((xs (nI i + (1 : Int32)).toNatClampNeg)) ((xs (nI i + (2 : Int32)).toNatClampNeg)) hR.2.1) (vx_cwSW 4 hts (gSL k_448 k_449 k_19 k_450) rfl rfl rfl (by decide +kernel) ⟨Nat.le_of_ble_eq_true rfl, Nat.le_of_ble_eq_true rfl⟩) (ps_ou hK hPc hDc hz hS hFc) rfl rfl hl.1 rfl (lv_room (Nat.le_of_ble_eq_true rfl)) dL_law_880 ⟨by have := hcs.1; omega, by have := hcs.2; omega⟩) hS (fun q _ h => hFc q h) hFc (fun r1 u t H1 locs ht hvm hw hB hz1 hk1 hS => ?_)
  obtain ⟨hP1, hK1, hD1⟩ := hB
  rw [ht] at hP1
  obtain ⟨τ, g1⟩ := u
  obtain ⟨hP2, hD2⟩ := va_join (wr := rw cI cZ d ρ) (w1 := ow cI cZ cL a o τ g1) hP hD [0, 1, 2, 3, 4, 5, 6, 7, 8, 9, 10, 11, 12, 13, 14, 15, 16, 17, 18, 19, 20, 21, 22, 23, 24, 25, 26, 27] [28, 29, 30, 31, 32, 33, 34, 35, 36, 37, 38, 39, 40, 41, 42, 43, 44, 45, 46, 47] rfl rfl (by decide) (by decide) hk1 hFc hP1 hD1
  have hP := hP2.sub (ws' := LW cI cZ cL a o d τ g1 ρ) [20, 21, 22, 23, 24, 25, 26, 27, 28, 29, 30, 31, 32, 33, 34, 35, 36, 37, 38, 39, 40, 41, 42, 43, 44, 45, 46, 47, 0, 1, 2, 3, 4, 5, 6, 7, 8, 9, 10, 11, 12, 13, 14, 15, 16, 17, 18, 19] rfl
  have hD := hD2.sub (ws' := LW cI cZ cL a o d τ g1 ρ) [20, 21, 22, 23, 24, 25, 26, 27, 28, 29, 30, 31, 32, 33, 34, 35, 36, 37, 38, 39, 40, 41, 42, 43, 44, 45, 46, 47, 0, 1, 2, 3, 4, 5, 6, 7, 8, 9, 10, 11, 12, 13, 14, 15, 16, 17, 18, 19] (by decide) rfl
  clear hPc hDc hFc hP2 hD2 hP1 hD1 hK1 hk1 hz1
  generalize H1 = H at hP hS ⊢
  refine W.widen (k := cells + 8) (n := slots + 48) (by omega) (by omega) ?_
  refine lv_istore (lv' := [(5, .int r1), (0, .ref b), (1, .ref (a 0)), (2, .ref (d 0)), (3, .ref o), (4, .int (nI i))]) hx hb dL_law_883 hl (by decide) rfl (fun ls hl => ?_)
  refine lv_aload_n hx hb dL_law_885 rfl (lv_at hl 3 rfl) ?_
  refine lv_aload_n hx hb dL_law_886 rfl (lv_at hl 1 rfl) ?_
  refine lv_iload hx hb dL_law_887 (lv_at hl 5 rfl) ?_
  refine lv_iconst (v := 1) hx hb dL_law_889 (by decide) ?_
  refine lv_iadd hx hb dL_law_890 ?_
  refine va_sld hx hb hX hbl hbA hS (ivx (k := 1) (by decide) hi hL) dL_law_891 ?_
  refine lv_aload_n hx hb dL_law_892 rfl (lv_at hl 1 rfl) ?_
  refine lv_iload hx hb dL_law_893 (lv_at hl 5 rfl) ?_
  refine lv_iconst (v := 2) hx hb dL_law_895 (by decide) ?_
  refine lv_iadd hx hb dL_law_896 ?_
  refine va_sld hx hb hX hbl hbA hS (ivx (k := 2) (by decide) hi hL) dL_law_897 ?_
  have hPc := hP.sub (ws' := rw cI cZ d ρ) [28, 29, 30, 31, 32, 33, 34, 35, 36, 37, 38, 39, 40, 41, 42, 43, 44, 45, 46, 47] rfl
  have hDc := hD.sub (ws' := rw cI cZ d ρ) [28, 29, 30, 31, 32, 33, 34, 35, 36, 37, 38, 39, 40, 41, 42, 43, 44, 45, 46, 47] (by decide) rfl
  have hFc := va_free (wc := rw cI cZ d ρ) hD hS hA [28, 29, 30, 31, 32, 33, 34, 35, 36, 37, 38, 39, 40, 41, 42, 43, 44, 45, 46, 47] rfl
  refine va_calli (va_runV (As := [.int (xs (nI i + (1 : Int32)).toNatClampNeg), .int (xs (nI i + (2 : Int32)).toNatClampNeg)]) (rest := []) ⟨hx, hb, hml, hown, hts⟩ (m_X4_recalled l dC dI cI cZ d H.size ρ ((xs (nI i + (1 : Int32)).toNatClampNeg)) ((xs (nI i + (2 : Int32)).toNatClampNeg)) hR.2.2.1) (cwV 2 hts (gVL k_727 k_728 k_729 k_24 k_730) rfl rfl rfl (by decide +kernel) ⟨Nat.le_of_ble_eq_true rfl, Nat.le_of_ble_eq_true rfl⟩) (pv_mr (q := (RX4, TX4, 23)) (q0 := 0) (ci := 4) hKc hPc hDc rfl rfl) rfl rfl hl.1 rfl (lv_room (Nat.le_of_ble_eq_true rfl)) dL_law_898 ⟨by have := hcs.1; omega, by have := hcs.2; omega⟩) hS (fun q _ h => hFc q h) hFc (fun r2 ρ9 t H1 locs ht hvm hw2 hB hz1 hk1 hS => ?_)
  obtain ⟨hP1, hK1, hD1⟩ := hB
  rw [ht] at hP1
  obtain ⟨hP2, hD2⟩ := va_join (wr := ow cI cZ cL a o τ g1) (w1 := rw cI cZ d ρ9) hP hD [28, 29, 30, 31, 32, 33, 34, 35, 36, 37, 38, 39, 40, 41, 42, 43, 44, 45, 46, 47] [0, 1, 2, 3, 4, 5, 6, 7, 8, 9, 10, 11, 12, 13, 14, 15, 16, 17, 18, 19, 20, 21, 22, 23, 24, 25, 26, 27] rfl rfl (by decide) (by decide) hk1 hFc hP1 hD1
  have hP : va_P (dC, dI) vwCl (LW cI cZ cL a o d τ g1 ρ9) H1 := hP2
  have hD : va_D (lA s) (LW cI cZ cL a o d τ g1 ρ9) := hD2
  clear hPc hDc hFc hP2 hD2 hP1 hD1 hK1 hk1 hz1
  generalize H1 = H at hP hS ⊢
  refine W.widen (k := cells + 8) (n := slots + 48) (by omega) (by omega) ?_
  have q := st_recalled hR ((xs (nI i + (1 : Int32)).toNatClampNeg)) ((xs (nI i + (2 : Int32)).toNatClampNeg))
  unfold stO at q
  have q := q g
  rw [← hw, ← hw2] at q
  have q1 : Rel τ ρ9 := q.1
  have q2 : ρ9 0 0 = r1 := q.2.1
  have q3 : r1 = 0 → g1 0 = r2.toInt64 := q.2.2
  clear q
  refine lv_istore (lv' := [(6, .int r2), (5, .int r1), (0, .ref b), (1, .ref (a 0)), (2, .ref (d 0)), (3, .ref o), (4, .int (nI i))]) hx hb dL_law_901 hl (by decide) rfl (fun ls hl => ?_)
  refine lv_aload_n hx hb dL_law_903 rfl (lv_at hl 4 rfl) ?_
  have hPc := hP.sub (ws' := rw cI cZ d ρ9) [28, 29, 30, 31, 32, 33, 34, 35, 36, 37, 38, 39, 40, 41, 42, 43, 44, 45, 46, 47] rfl
  refine vp_callSi (W.runV (As := []) (rest := []) ⟨hx, hb, hml, hown, hts⟩ (m_X4_thrown l dC dI cI cZ d ρ9) (cwV 0 hts (gVL k_641 k_642 k_643 k_24 k_644) rfl rfl rfl (by decide +kernel) ⟨Nat.le_of_ble_eq_true rfl, Nat.le_of_ble_eq_true rfl⟩) (pv_rr (q := (RX4, TX4, 23)) (q0 := 0) (ci := 4) hKc hPc rfl rfl) rfl rfl hl.1 rfl (lv_room (Nat.le_of_ble_eq_true rfl)) dL_law_904 ⟨by have := hcs.1; omega, by have := hcs.2; omega⟩) (fun r8 h8 => ?_)
  have h8 : r8 = r1 := h8.trans q2
  refine lv_iload hx hb dL_law_907 (lv_at hl 1 rfl) ?_
  refine lv_icmp_eq (tgt := 914) hx hb dL_law_909 (by decide) (fun c8 => ?_) (fun c8 => absurd h8 c8)
  have fin : W p l e room_1 s m #[Value.ref b] below meth c H locs (cells + 8) (slots + 48) (lw_Z below #[Value.ref b] s) (F0 m 931 ls []) := by
    refine lv_goto (tgt := 1442) hx hb dL_law_931 (by decide) ?_
    exact kk _ _ _ _ _ _ q1 hP hD hS (lv_sub hl [2, 3, 4, 5, 6] rfl)
  refine lv_iload hx hb dL_law_914 (lv_at hl 1 rfl) ?_
  refine lv_if_ne (tgt := 931) hx hb dL_law_916 (by decide) (fun _ => fin) (fun c7 => ?_)
  refine lv_aload_n hx hb dL_law_919 rfl (lv_at hl 5 rfl) ?_
  refine lv_iconst (v := 0) hx hb dL_law_920 (by decide) ?_
  refine va_lald (D := (dC, dI)) (f := g1) hx hb hK hP 27 2 rfl rfl (i := 0) (vp_lit 0 (by decide)) dL_law_921 ?_
  refine lv_iload hx hb dL_law_922 (lv_at hl 0 rfl) ?_
  refine lv_i2l hx hb dL_law_924 rfl ?_
  refine W.lcmp hx hb dL_law_925 ?_
  refine lv_if_eq (tgt := 931) hx hb dL_law_926 (by decide) (fun _ => fin) (fun c6 => absurd (lg_0 (q3 c7)) c6)
set_option maxHeartbeats 4000000 in
set_option maxRecDepth 100000 in
theorem lc_barred {p : Program} {l : Launch} (hl9 : l.stackTraces = false) {e : Env} {s : State} {m : MethodId} {below : List Frame} {meth : Method} {c : Code} {dC : Nat → ClassId} {dI : Nat → Nat → Nat} {cI cZ cL : ClassId} {b L : Nat} {xs : Nat → Int32} (hL : L ≤ 3584) (C0 : lw_At p s m meth c b L xs) {zk : Nat → Nat} (hz : zz zk (lA s) s s.heap) (hK : va_K (dC, dI) vwCl (TY cI cZ cL) s) {a : Nat → Nat} {o : Nat} {d : Nat → Nat} {i : Nat} (hi : i + 7 ≤ L) {σ ρ : St} (hR : Rel σ ρ) {g : Nat → Int64} {H : Heap} {locs : List Loc} (hP : va_P (dC, dI) vwCl (LW cI cZ cL a o d σ g ρ) H) (hD : va_D (lA s) (LW cI cZ cL a o d σ g ρ)) (hS : va_S (lA s) s.heap H locs) {ls : Array Slot} (hl : lv_has ls 7 [(0, .ref b), (1, .ref (a 0)), (2, .ref (d 0)), (3, .ref o), (4, .int (nI i))]) {cells slots : Nat} (hcs : cells + 8 ≤ room_1.cells ∧ slots + 48 ≤ room_1.slots) (kk : ∀ (σ' ρ' : St) (g' : Nat → Int64) (H' : Heap) (locs' : List Loc) (ls' : Array Slot), Rel σ' ρ' → va_P (dC, dI) vwCl (LW cI cZ cL a o d σ' g' ρ') H' → va_D (lA s) (LW cI cZ cL a o d σ' g' ρ') → va_S (lA s) s.heap H' locs' → lv_has ls' 7 [(0, .ref b), (1, .ref (a 0)), (2, .ref (d 0)), (3, .ref o), (4, .int (nI i))] → W p l e room_1 s m #[Value.ref b] below meth c H' locs' (cells + 8) (slots + 48) (lw_Z below #[Value.ref b] s) (F0 m 1442 ls' [])) : W p l e room_1 s m #[Value.ref b] below meth c H locs cells slots (lw_Z below #[Value.ref b] s) (F0 m 934 ls []) := by
  obtain ⟨hx, hb, hr, hml, hown, hts, hX, hbl, hlocks, hgv⟩ := C0
  have hown : s.vm.findClass RL = some m.cls := hown
  have hA : ∀ q : Nat, s.heap.size ≤ q → lA s q := fun _ h => h
  have hbA : ¬ lA s b := Nat.not_le.mpr hbl
  have hKc : va_K (dC, dI) vwCl [(cI, .int), (cZ, .boolean)] s := hK.sub [0, 1] rfl
  refine lv_aload_n hx hb dL_law_934 rfl (lv_at hl 1 rfl) ?_
  refine lv_aload_n hx hb dL_law_935 rfl (lv_at hl 0 rfl) ?_
  refine lv_iload hx hb dL_law_936 (lv_at hl 4 rfl) ?_
  refine lv_iconst (v := 1) hx hb dL_law_938 (by decide) ?_
  refine lv_iadd hx hb dL_law_939 ?_
  refine va_sld hx hb hX hbl hbA hS (ivx (k := 1) (by decide) hi hL) dL_law_940 ?_
  refine lv_aload_n hx hb dL_law_941 rfl (lv_at hl 3 rfl) ?_
  have hPc := hP.sub (ws' := ow cI cZ cL a o σ g) [0, 1, 2, 3, 4, 5, 6, 7, 8, 9, 10, 11, 12, 13, 14, 15, 16, 17, 18, 19, 20, 21, 22, 23, 24, 25, 26, 27] rfl
  have hDc := hD.sub (ws' := ow cI cZ cL a o σ g) [0, 1, 2, 3, 4, 5, 6, 7, 8, 9, 10, 11, 12, 13, 14, 15, 16, 17, 18, 19, 20, 21, 22, 23, 24, 25, 26, 27] (by decide) rfl
  have hFc := va_free (wc := ow cI cZ cL a o σ g) hD hS hA [0, 1, 2, 3, 4, 5, 6, 7, 8, 9, 10, 11, 12, 13, 14, 15, 16, 17, 18, 19, 20, 21, 22, 23, 24, 25, 26, 27] rfl
  refine va_calli (vx_runSW (As := [.ref (a 0), .int (xs (nI i + (1 : Int32)).toNatClampNeg), .ref o]) (rest := []) ⟨hx, hb, hml, hown, hts⟩ (m_L_barred l hl9 dC dI cI cZ cL a o zk H.size σ g ((xs (nI i + (1 : Int32)).toNatClampNeg)) hR.2.1) (vx_cwSW 3 hts (gSL k_459 k_460 k_19 k_461) rfl rfl rfl (by decide +kernel) ⟨Nat.le_of_ble_eq_true rfl, Nat.le_of_ble_eq_true rfl⟩) (ps_ou hK hPc hDc hz hS hFc) rfl rfl hl.1 rfl (lv_room (Nat.le_of_ble_eq_true rfl)) dL_law_942 ⟨by have := hcs.1; omega, by have := hcs.2; omega⟩) hS (fun q _ h => hFc q h) hFc (fun r1 u t H1 locs ht hvm hw hB hz1 hk1 hS => ?_)
  obtain ⟨hP1, hK1, hD1⟩ := hB
  rw [ht] at hP1
  obtain ⟨τ, g1⟩ := u
  obtain ⟨hP2, hD2⟩ := va_join (wr := rw cI cZ d ρ) (w1 := ow cI cZ cL a o τ g1) hP hD [0, 1, 2, 3, 4, 5, 6, 7, 8, 9, 10, 11, 12, 13, 14, 15, 16, 17, 18, 19, 20, 21, 22, 23, 24, 25, 26, 27] [28, 29, 30, 31, 32, 33, 34, 35, 36, 37, 38, 39, 40, 41, 42, 43, 44, 45, 46, 47] rfl rfl (by decide) (by decide) hk1 hFc hP1 hD1
  have hP := hP2.sub (ws' := LW cI cZ cL a o d τ g1 ρ) [20, 21, 22, 23, 24, 25, 26, 27, 28, 29, 30, 31, 32, 33, 34, 35, 36, 37, 38, 39, 40, 41, 42, 43, 44, 45, 46, 47, 0, 1, 2, 3, 4, 5, 6, 7, 8, 9, 10, 11, 12, 13, 14, 15, 16, 17, 18, 19] rfl
  have hD := hD2.sub (ws' := LW cI cZ cL a o d τ g1 ρ) [20, 21, 22, 23, 24, 25, 26, 27, 28, 29, 30, 31, 32, 33, 34, 35, 36, 37, 38, 39, 40, 41, 42, 43, 44, 45, 46, 47, 0, 1, 2, 3, 4, 5, 6, 7, 8, 9, 10, 11, 12, 13, 14, 15, 16, 17, 18, 19] (by decide) rfl
  clear hPc hDc hFc hP2 hD2 hP1 hD1 hK1 hk1 hz1
  generalize H1 = H at hP hS ⊢
  refine W.widen (k := cells + 8) (n := slots + 48) (by omega) (by omega) ?_
  refine lv_istore (lv' := [(5, .int r1), (0, .ref b), (1, .ref (a 0)), (2, .ref (d 0)), (3, .ref o), (4, .int (nI i))]) hx hb dL_law_945 hl (by decide) rfl (fun ls hl => ?_)
  refine lv_aload_n hx hb dL_law_947 rfl (lv_at hl 3 rfl) ?_
  refine lv_aload_n hx hb dL_law_948 rfl (lv_at hl 1 rfl) ?_
  refine lv_iload hx hb dL_law_949 (lv_at hl 5 rfl) ?_
  refine lv_iconst (v := 1) hx hb dL_law_951 (by decide) ?_
  refine lv_iadd hx hb dL_law_952 ?_
  refine va_sld hx hb hX hbl hbA hS (ivx (k := 1) (by decide) hi hL) dL_law_953 ?_
  have hPc := hP.sub (ws' := rw cI cZ d ρ) [28, 29, 30, 31, 32, 33, 34, 35, 36, 37, 38, 39, 40, 41, 42, 43, 44, 45, 46, 47] rfl
  have hDc := hD.sub (ws' := rw cI cZ d ρ) [28, 29, 30, 31, 32, 33, 34, 35, 36, 37, 38, 39, 40, 41, 42, 43, 44, 45, 46, 47] (by decide) rfl
  have hFc := va_free (wc := rw cI cZ d ρ) hD hS hA [28, 29, 30, 31, 32, 33, 34, 35, 36, 37, 38, 39, 40, 41, 42, 43, 44, 45, 46, 47] rfl
  refine va_calli (va_runV (As := [.int (xs (nI i + (1 : Int32)).toNatClampNeg)]) (rest := []) ⟨hx, hb, hml, hown, hts⟩ (m_X4_barred l dC dI cI cZ d H.size ρ ((xs (nI i + (1 : Int32)).toNatClampNeg)) hR.2.2.1) (cwV 1 hts (gVL k_731 k_732 k_733 k_24 k_734) rfl rfl rfl (by decide +kernel) ⟨Nat.le_of_ble_eq_true rfl, Nat.le_of_ble_eq_true rfl⟩) (pv_mr (q := (RX4, TX4, 23)) (q0 := 0) (ci := 4) hKc hPc hDc rfl rfl) rfl rfl hl.1 rfl (lv_room (Nat.le_of_ble_eq_true rfl)) dL_law_954 ⟨by have := hcs.1; omega, by have := hcs.2; omega⟩) hS (fun q _ h => hFc q h) hFc (fun r2 ρ9 t H1 locs ht hvm hw2 hB hz1 hk1 hS => ?_)
  obtain ⟨hP1, hK1, hD1⟩ := hB
  rw [ht] at hP1
  obtain ⟨hP2, hD2⟩ := va_join (wr := ow cI cZ cL a o τ g1) (w1 := rw cI cZ d ρ9) hP hD [28, 29, 30, 31, 32, 33, 34, 35, 36, 37, 38, 39, 40, 41, 42, 43, 44, 45, 46, 47] [0, 1, 2, 3, 4, 5, 6, 7, 8, 9, 10, 11, 12, 13, 14, 15, 16, 17, 18, 19, 20, 21, 22, 23, 24, 25, 26, 27] rfl rfl (by decide) (by decide) hk1 hFc hP1 hD1
  have hP : va_P (dC, dI) vwCl (LW cI cZ cL a o d τ g1 ρ9) H1 := hP2
  have hD : va_D (lA s) (LW cI cZ cL a o d τ g1 ρ9) := hD2
  clear hPc hDc hFc hP2 hD2 hP1 hD1 hK1 hk1 hz1
  generalize H1 = H at hP hS ⊢
  refine W.widen (k := cells + 8) (n := slots + 48) (by omega) (by omega) ?_
  have q := st_barred hR ((xs (nI i + (1 : Int32)).toNatClampNeg))
  unfold stO at q
  have q := q g
  rw [← hw, ← hw2] at q
  have q1 : Rel τ ρ9 := q.1
  have q2 : ρ9 0 0 = r1 := q.2.1
  have q3 : r1 = 0 → g1 0 = r2.toInt64 := q.2.2
  clear q
  refine lv_istore (lv' := [(6, .int r2), (5, .int r1), (0, .ref b), (1, .ref (a 0)), (2, .ref (d 0)), (3, .ref o), (4, .int (nI i))]) hx hb dL_law_957 hl (by decide) rfl (fun ls hl => ?_)
  refine lv_aload_n hx hb dL_law_959 rfl (lv_at hl 4 rfl) ?_
  have hPc := hP.sub (ws' := rw cI cZ d ρ9) [28, 29, 30, 31, 32, 33, 34, 35, 36, 37, 38, 39, 40, 41, 42, 43, 44, 45, 46, 47] rfl
  refine vp_callSi (W.runV (As := []) (rest := []) ⟨hx, hb, hml, hown, hts⟩ (m_X4_thrown l dC dI cI cZ d ρ9) (cwV 0 hts (gVL k_641 k_642 k_643 k_24 k_644) rfl rfl rfl (by decide +kernel) ⟨Nat.le_of_ble_eq_true rfl, Nat.le_of_ble_eq_true rfl⟩) (pv_rr (q := (RX4, TX4, 23)) (q0 := 0) (ci := 4) hKc hPc rfl rfl) rfl rfl hl.1 rfl (lv_room (Nat.le_of_ble_eq_true rfl)) dL_law_960 ⟨by have := hcs.1; omega, by have := hcs.2; omega⟩) (fun r8 h8 => ?_)
  have h8 : r8 = r1 := h8.trans q2
  refine lv_iload hx hb dL_law_963 (lv_at hl 1 rfl) ?_
  refine lv_icmp_eq (tgt := 970) hx hb dL_law_965 (by decide) (fun c8 => ?_) (fun c8 => absurd h8 c8)
  have fin : W p l e room_1 s m #[Value.ref b] below meth c H locs (cells + 8) (slots + 48) (lw_Z below #[Value.ref b] s) (F0 m 987 ls []) := by
    refine lv_goto (tgt := 1442) hx hb dL_law_987 (by decide) ?_
    exact kk _ _ _ _ _ _ q1 hP hD hS (lv_sub hl [2, 3, 4, 5, 6] rfl)
  refine lv_iload hx hb dL_law_970 (lv_at hl 1 rfl) ?_
  refine lv_if_ne (tgt := 987) hx hb dL_law_972 (by decide) (fun _ => fin) (fun c7 => ?_)
  refine lv_aload_n hx hb dL_law_975 rfl (lv_at hl 5 rfl) ?_
  refine lv_iconst (v := 0) hx hb dL_law_976 (by decide) ?_
  refine va_lald (D := (dC, dI)) (f := g1) hx hb hK hP 27 2 rfl rfl (i := 0) (vp_lit 0 (by decide)) dL_law_977 ?_
  refine lv_iload hx hb dL_law_978 (lv_at hl 0 rfl) ?_
  refine lv_i2l hx hb dL_law_980 rfl ?_
  refine W.lcmp hx hb dL_law_981 ?_
  refine lv_if_eq (tgt := 987) hx hb dL_law_982 (by decide) (fun _ => fin) (fun c6 => absurd (lg_0 (q3 c7)) c6)
