set_option maxHeartbeats 4000000 in
set_option maxRecDepth 100000 in
theorem lc_letter {p : Program} {l : Launch} (hl9 : l.stackTraces = false) {e : Env} {s : State} {m : MethodId} {below : List Frame} {meth : Method} {c : Code} {dC : Nat → ClassId} {dI : Nat → Nat → Nat} {cI cZ cL : ClassId} {b L : Nat} {xs : Nat → Int32} (hL : L ≤ 3584) (C0 : lw_At p s m meth c b L xs) {zk : Nat → Nat} (hz : zz zk (lA s) s s.heap) (hK : va_K (dC, dI) vwCl (TY cI cZ cL) s) {a : Nat → Nat} {o : Nat} {d : Nat → Nat} {i : Nat} (hi : i + 7 ≤ L) {σ ρ : St} (hR : Rel σ ρ) {g : Nat → Int64} {H : Heap} {locs : List Loc} (hP : va_P (dC, dI) vwCl (LW cI cZ cL a o d σ g ρ) H) (hD : va_D (lA s) (LW cI cZ cL a o d σ g ρ)) (hS : va_S (lA s) s.heap H locs) {ls : Array Slot} (hl : lv_has ls 7 [(0, .ref b), (1, .ref (a 0)), (2, .ref (d 0)), (3, .ref o), (4, .int (nI i))]) {cells slots : Nat} (hcs : cells + 8 ≤ room_1.cells ∧ slots + 48 ≤ room_1.slots) (kk : ∀ (σ' ρ' : St) (g' : Nat → Int64) (H' : Heap) (locs' : List Loc) (ls' : Array Slot), Rel σ' ρ' → va_P (dC, dI) vwCl (LW cI cZ cL a o d σ' g' ρ') H' → va_D (lA s) (LW cI cZ cL a o d σ' g' ρ') → va_S (lA s) s.heap H' locs' → lv_has ls' 7 [(0, .ref b), (1, .ref (a 0)), (2, .ref (d 0)), (3, .ref o), (4, .int (nI i))] → W p l e room_1 s m #[Value.ref b] below meth c H' locs' (cells + 8) (slots + 48) (lw_Z below #[Value.ref b] s) (F0 m 1442 ls' [])) : W p l e room_1 s m #[Value.ref b] below meth c H locs cells slots (lw_Z below #[Value.ref b] s) (F0 m 478 ls []) := by
  obtain ⟨hx, hb, hr, hml, hown, hts, hX, hbl, hlocks, hgv⟩ := C0
  have hown : s.vm.findClass RL = some m.cls := hown
  have hA : ∀ q : Nat, s.heap.size ≤ q → lA s q := fun _ h => h
  have hbA : ¬ lA s b := Nat.not_le.mpr hbl
  have hKc : va_K (dC, dI) vwCl [(cI, .int), (cZ, .boolean)] s := hK.sub [0, 1] rfl
  refine lv_aload_n hx hb dL_law_478 rfl (lv_at hl 1 rfl) ?_
  refine lv_aload_n hx hb dL_law_479 rfl (lv_at hl 0 rfl) ?_
  refine lv_iload hx hb dL_law_480 (lv_at hl 4 rfl) ?_
  refine lv_iconst (v := 1) hx hb dL_law_482 (by decide) ?_
  refine lv_iadd hx hb dL_law_483 ?_
  refine va_sld hx hb hX hbl hbA hS (ivx (k := 1) (by decide) hi hL) dL_law_484 ?_
  refine lv_aload_n hx hb dL_law_485 rfl (lv_at hl 3 rfl) ?_
  have hPc := hP.sub (ws' := ow cI cZ cL a o σ g) [0, 1, 2, 3, 4, 5, 6, 7, 8, 9, 10, 11, 12, 13, 14, 15, 16, 17, 18, 19, 20, 21, 22, 23, 24, 25, 26, 27] rfl
  have hDc := hD.sub (ws' := ow cI cZ cL a o σ g) [0, 1, 2, 3, 4, 5, 6, 7, 8, 9, 10, 11, 12, 13, 14, 15, 16, 17, 18, 19, 20, 21, 22, 23, 24, 25, 26, 27] (by decide) rfl
  have hFc := va_free (wc := ow cI cZ cL a o σ g) hD hS hA [0, 1, 2, 3, 4, 5, 6, 7, 8, 9, 10, 11, 12, 13, 14, 15, 16, 17, 18, 19, 20, 21, 22, 23, 24, 25, 26, 27] rfl
  refine va_calli (vx_runSW (As := [.ref (a 0), .int (xs (nI i + (1 : Int32)).toNatClampNeg), .ref o]) (rest := []) ⟨hx, hb, hml, hown, hts⟩ (m_L_letter l hl9 dC dI cI cZ cL a o zk H.size σ g ((xs (nI i + (1 : Int32)).toNatClampNeg)) hR.2.1) (vx_cwSW 3 hts (gSL k_354 k_355 k_19 k_356) rfl rfl rfl (by decide +kernel) ⟨Nat.le_of_ble_eq_true rfl, Nat.le_of_ble_eq_true rfl⟩) (ps_ou hK hPc hDc hz hS hFc) rfl rfl hl.1 rfl (lv_room (Nat.le_of_ble_eq_true rfl)) dL_law_486 ⟨by have := hcs.1; omega, by have := hcs.2; omega⟩) hS (fun q _ h => hFc q h) hFc (fun r1 u t H1 locs ht hvm hw hB hz1 hk1 hS => ?_)
  obtain ⟨hP1, hK1, hD1⟩ := hB
  rw [ht] at hP1
  obtain ⟨τ, g1⟩ := u
  obtain ⟨hP2, hD2⟩ := va_join (wr := rw cI cZ d ρ) (w1 := ow cI cZ cL a o τ g1) hP hD [0, 1, 2, 3, 4, 5, 6, 7, 8, 9, 10, 11, 12, 13, 14, 15, 16, 17, 18, 19, 20, 21, 22, 23, 24, 25, 26, 27] [28, 29, 30, 31, 32, 33, 34, 35, 36, 37, 38, 39, 40, 41, 42, 43, 44, 45, 46, 47] rfl rfl (by decide) (by decide) hk1 hFc hP1 hD1
  have hP := hP2.sub (ws' := LW cI cZ cL a o d τ g1 ρ) [20, 21, 22, 23, 24, 25, 26, 27, 28, 29, 30, 31, 32, 33, 34, 35, 36, 37, 38, 39, 40, 41, 42, 43, 44, 45, 46, 47, 0, 1, 2, 3, 4, 5, 6, 7, 8, 9, 10, 11, 12, 13, 14, 15, 16, 17, 18, 19] rfl
  have hD := hD2.sub (ws' := LW cI cZ cL a o d τ g1 ρ) [20, 21, 22, 23, 24, 25, 26, 27, 28, 29, 30, 31, 32, 33, 34, 35, 36, 37, 38, 39, 40, 41, 42, 43, 44, 45, 46, 47, 0, 1, 2, 3, 4, 5, 6, 7, 8, 9, 10, 11, 12, 13, 14, 15, 16, 17, 18, 19] (by decide) rfl
  clear hPc hDc hFc hP2 hD2 hP1 hD1 hK1 hk1 hz1
  generalize H1 = H at hP hS ⊢
  refine W.widen (k := cells + 8) (n := slots + 48) (by omega) (by omega) ?_
  refine lv_istore (lv' := [(5, .int r1), (0, .ref b), (1, .ref (a 0)), (2, .ref (d 0)), (3, .ref o), (4, .int (nI i))]) hx hb dL_law_489 hl (by decide) rfl (fun ls hl => ?_)
  refine lv_aload_n hx hb dL_law_491 rfl (lv_at hl 3 rfl) ?_
  refine lv_aload_n hx hb dL_law_492 rfl (lv_at hl 1 rfl) ?_
  refine lv_iload hx hb dL_law_493 (lv_at hl 5 rfl) ?_
  refine lv_iconst (v := 1) hx hb dL_law_495 (by decide) ?_
  refine lv_iadd hx hb dL_law_496 ?_
  refine va_sld hx hb hX hbl hbA hS (ivx (k := 1) (by decide) hi hL) dL_law_497 ?_
  have hPc := hP.sub (ws' := rw cI cZ d ρ) [28, 29, 30, 31, 32, 33, 34, 35, 36, 37, 38, 39, 40, 41, 42, 43, 44, 45, 46, 47] rfl
  have hDc := hD.sub (ws' := rw cI cZ d ρ) [28, 29, 30, 31, 32, 33, 34, 35, 36, 37, 38, 39, 40, 41, 42, 43, 44, 45, 46, 47] (by decide) rfl
  have hFc := va_free (wc := rw cI cZ d ρ) hD hS hA [28, 29, 30, 31, 32, 33, 34, 35, 36, 37, 38, 39, 40, 41, 42, 43, 44, 45, 46, 47] rfl
  refine va_calli (va_runV (As := [.int (xs (nI i + (1 : Int32)).toNatClampNeg)]) (rest := []) ⟨hx, hb, hml, hown, hts⟩ (m_X4_letter l dC dI cI cZ d H.size ρ ((xs (nI i + (1 : Int32)).toNatClampNeg)) hR.2.2.1) (cwV 1 hts (gVL k_672 k_673 k_674 k_24 k_675) rfl rfl rfl (by decide +kernel) ⟨Nat.le_of_ble_eq_true rfl, Nat.le_of_ble_eq_true rfl⟩) (pv_mr (q := (RX4, TX4, 23)) (q0 := 0) (ci := 4) hKc hPc hDc rfl rfl) rfl rfl hl.1 rfl (lv_room (Nat.le_of_ble_eq_true rfl)) dL_law_498 ⟨by have := hcs.1; omega, by have := hcs.2; omega⟩) hS (fun q _ h => hFc q h) hFc (fun r2 ρ9 t H1 locs ht hvm hw2 hB hz1 hk1 hS => ?_)
  obtain ⟨hP1, hK1, hD1⟩ := hB
  rw [ht] at hP1
  obtain ⟨hP2, hD2⟩ := va_join (wr := ow cI cZ cL a o τ g1) (w1 := rw cI cZ d ρ9) hP hD [28, 29, 30, 31, 32, 33, 34, 35, 36, 37, 38, 39, 40, 41, 42, 43, 44, 45, 46, 47] [0, 1, 2, 3, 4, 5, 6, 7, 8, 9, 10, 11, 12, 13, 14, 15, 16, 17, 18, 19, 20, 21, 22, 23, 24, 25, 26, 27] rfl rfl (by decide) (by decide) hk1 hFc hP1 hD1
  have hP : va_P (dC, dI) vwCl (LW cI cZ cL a o d τ g1 ρ9) H1 := hP2
  have hD : va_D (lA s) (LW cI cZ cL a o d τ g1 ρ9) := hD2
  clear hPc hDc hFc hP2 hD2 hP1 hD1 hK1 hk1 hz1
  generalize H1 = H at hP hS ⊢
  refine W.widen (k := cells + 8) (n := slots + 48) (by omega) (by omega) ?_
  have q := st_letter hR ((xs (nI i + (1 : Int32)).toNatClampNeg))
  unfold stO at q
  have q := q g
  rw [← hw, ← hw2] at q
  have q1 : Rel τ ρ9 := q.1
  have q2 : ρ9 0 0 = r1 := q.2.1
  have q3 : r1 = 0 → g1 0 = r2.toInt64 := q.2.2
  clear q
  refine lv_istore (lv' := [(6, .int r2), (5, .int r1), (0, .ref b), (1, .ref (a 0)), (2, .ref (d 0)), (3, .ref o), (4, .int (nI i))]) hx hb dL_law_501 hl (by decide) rfl (fun ls hl => ?_)
  refine lv_aload_n hx hb dL_law_503 rfl (lv_at hl 4 rfl) ?_
  have hPc := hP.sub (ws' := rw cI cZ d ρ9) [28, 29, 30, 31, 32, 33, 34, 35, 36, 37, 38, 39, 40, 41, 42, 43, 44, 45, 46, 47] rfl
  refine vp_callSi (W.runV (As := []) (rest := []) ⟨hx, hb, hml, hown, hts⟩ (m_X4_thrown l dC dI cI cZ d ρ9) (cwV 0 hts (gVL k_641 k_642 k_643 k_24 k_644) rfl rfl rfl (by decide +kernel) ⟨Nat.le_of_ble_eq_true rfl, Nat.le_of_ble_eq_true rfl⟩) (pv_rr (q := (RX4, TX4, 23)) (q0 := 0) (ci := 4) hKc hPc rfl rfl) rfl rfl hl.1 rfl (lv_room (Nat.le_of_ble_eq_true rfl)) dL_law_504 ⟨by have := hcs.1; omega, by have := hcs.2; omega⟩) (fun r8 h8 => ?_)
  have h8 : r8 = r1 := h8.trans q2
  refine lv_iload hx hb dL_law_507 (lv_at hl 1 rfl) ?_
  refine lv_icmp_eq (tgt := 514) hx hb dL_law_509 (by decide) (fun c8 => ?_) (fun c8 => absurd h8 c8)
  have fin : W p l e room_1 s m #[Value.ref b] below meth c H locs (cells + 8) (slots + 48) (lw_Z below #[Value.ref b] s) (F0 m 531 ls []) := by
    refine lv_goto (tgt := 1442) hx hb dL_law_531 (by decide) ?_
    exact kk _ _ _ _ _ _ q1 hP hD hS (lv_sub hl [2, 3, 4, 5, 6] rfl)
  refine lv_iload hx hb dL_law_514 (lv_at hl 1 rfl) ?_
  refine lv_if_ne (tgt := 531) hx hb dL_law_516 (by decide) (fun _ => fin) (fun c7 => ?_)
  refine lv_aload_n hx hb dL_law_519 rfl (lv_at hl 5 rfl) ?_
  refine lv_iconst (v := 0) hx hb dL_law_520 (by decide) ?_
  refine va_lald (D := (dC, dI)) (f := g1) hx hb hK hP 27 2 rfl rfl (i := 0) (vp_lit 0 (by decide)) dL_law_521 ?_
  refine lv_iload hx hb dL_law_522 (lv_at hl 0 rfl) ?_
  refine lv_i2l hx hb dL_law_524 rfl ?_
  refine W.lcmp hx hb dL_law_525 ?_
  refine lv_if_eq (tgt := 531) hx hb dL_law_526 (by decide) (fun _ => fin) (fun c6 => absurd (lg_0 (q3 c7)) c6)
set_option maxHeartbeats 4000000 in
set_option maxRecDepth 100000 in
theorem lc_use {p : Program} {l : Launch} (hl9 : l.stackTraces = false) {e : Env} {s : State} {m : MethodId} {below : List Frame} {meth : Method} {c : Code} {dC : Nat → ClassId} {dI : Nat → Nat → Nat} {cI cZ cL : ClassId} {b L : Nat} {xs : Nat → Int32} (hL : L ≤ 3584) (C0 : lw_At p s m meth c b L xs) {zk : Nat → Nat} (hz : zz zk (lA s) s s.heap) (hK : va_K (dC, dI) vwCl (TY cI cZ cL) s) {a : Nat → Nat} {o : Nat} {d : Nat → Nat} {i : Nat} (hi : i + 7 ≤ L) {σ ρ : St} (hR : Rel σ ρ) {g : Nat → Int64} {H : Heap} {locs : List Loc} (hP : va_P (dC, dI) vwCl (LW cI cZ cL a o d σ g ρ) H) (hD : va_D (lA s) (LW cI cZ cL a o d σ g ρ)) (hS : va_S (lA s) s.heap H locs) {ls : Array Slot} (hl : lv_has ls 7 [(0, .ref b), (1, .ref (a 0)), (2, .ref (d 0)), (3, .ref o), (4, .int (nI i))]) {cells slots : Nat} (hcs : cells + 8 ≤ room_1.cells ∧ slots + 48 ≤ room_1.slots) (kk : ∀ (σ' ρ' : St) (g' : Nat → Int64) (H' : Heap) (locs' : List Loc) (ls' : Array Slot), Rel σ' ρ' → va_P (dC, dI) vwCl (LW cI cZ cL a o d σ' g' ρ') H' → va_D (lA s) (LW cI cZ cL a o d σ' g' ρ') → va_S (lA s) s.heap H' locs' → lv_has ls' 7 [(0, .ref b), (1, .ref (a 0)), (2, .ref (d 0)), (3, .ref o), (4, .int (nI i))] → W p l e room_1 s m #[Value.ref b] below meth c H' locs' (cells + 8) (slots + 48) (lw_Z below #[Value.ref b] s) (F0 m 1442 ls' [])) : W p l e room_1 s m #[Value.ref b] below meth c H locs cells slots (lw_Z below #[Value.ref b] s) (F0 m 534 ls []) := by
  obtain ⟨hx, hb, hr, hml, hown, hts, hX, hbl, hlocks, hgv⟩ := C0
  have hown : s.vm.findClass RL = some m.cls := hown
  have hA : ∀ q : Nat, s.heap.size ≤ q → lA s q := fun _ h => h
  have hbA : ¬ lA s b := Nat.not_le.mpr hbl
  have hKc : va_K (dC, dI) vwCl [(cI, .int), (cZ, .boolean)] s := hK.sub [0, 1] rfl
  refine lv_aload_n hx hb dL_law_534 rfl (lv_at hl 1 rfl) ?_
  refine lv_aload_n hx hb dL_law_535 rfl (lv_at hl 0 rfl) ?_
  refine lv_iload hx hb dL_law_536 (lv_at hl 4 rfl) ?_
  refine lv_iconst (v := 1) hx hb dL_law_538 (by decide) ?_
  refine lv_iadd hx hb dL_law_539 ?_
  refine va_sld hx hb hX hbl hbA hS (ivx (k := 1) (by decide) hi hL) dL_law_540 ?_
  have hPc := hP.sub (ws' := cw cI cZ a σ) [0, 1, 2, 3, 4, 5, 6, 7, 8, 9, 10, 11, 12, 13, 14, 15, 16, 17, 18, 19, 20, 21, 22, 23, 24, 25, 26] rfl
  have hDc := hD.sub (ws' := cw cI cZ a σ) [0, 1, 2, 3, 4, 5, 6, 7, 8, 9, 10, 11, 12, 13, 14, 15, 16, 17, 18, 19, 20, 21, 22, 23, 24, 25, 26] (by decide) rfl
  have hFc := va_free (wc := cw cI cZ a σ) hD hS hA [0, 1, 2, 3, 4, 5, 6, 7, 8, 9, 10, 11, 12, 13, 14, 15, 16, 17, 18, 19, 20, 21, 22, 23, 24, 25, 26] rfl
  refine va_calli (vx_runSW (As := [.ref (a 0), .int (xs (nI i + (1 : Int32)).toNatClampNeg)]) (rest := []) ⟨hx, hb, hml, hown, hts⟩ (m_L_use l hl9 dC dI cI cZ a zk H.size σ ((xs (nI i + (1 : Int32)).toNatClampNeg)) hR.2.1) (vx_cwSW 2 hts (gSL k_361 k_362 k_19 k_363) rfl rfl rfl (by decide +kernel) ⟨Nat.le_of_ble_eq_true rfl, Nat.le_of_ble_eq_true rfl⟩) (ps_pu hKc hPc hDc hz hS hFc) rfl rfl hl.1 rfl (lv_room (Nat.le_of_ble_eq_true rfl)) dL_law_541 ⟨by have := hcs.1; omega, by have := hcs.2; omega⟩) hS (fun q _ h => hFc q h) hFc (fun r1 u t H1 locs ht hvm hw hB hz1 hk1 hS => ?_)
  obtain ⟨hP1, hK1, hD1⟩ := hB
  rw [ht] at hP1
  obtain ⟨τ, hτ⟩ : ∃ z, z = u := ⟨_, rfl⟩
  subst hτ
  obtain ⟨hP2, hD2⟩ := va_join (wr := (o, .inl (cL, 1, .inr (.inl g))) :: rw cI cZ d ρ) (w1 := cw cI cZ a τ) hP hD [0, 1, 2, 3, 4, 5, 6, 7, 8, 9, 10, 11, 12, 13, 14, 15, 16, 17, 18, 19, 20, 21, 22, 23, 24, 25, 26] [27, 28, 29, 30, 31, 32, 33, 34, 35, 36, 37, 38, 39, 40, 41, 42, 43, 44, 45, 46, 47] rfl rfl (by decide) (by decide) hk1 hFc hP1 hD1
  have hP := hP2.sub (ws' := LW cI cZ cL a o d τ g ρ) [21, 22, 23, 24, 25, 26, 27, 28, 29, 30, 31, 32, 33, 34, 35, 36, 37, 38, 39, 40, 41, 42, 43, 44, 45, 46, 47, 0, 1, 2, 3, 4, 5, 6, 7, 8, 9, 10, 11, 12, 13, 14, 15, 16, 17, 18, 19, 20] rfl
  have hD := hD2.sub (ws' := LW cI cZ cL a o d τ g ρ) [21, 22, 23, 24, 25, 26, 27, 28, 29, 30, 31, 32, 33, 34, 35, 36, 37, 38, 39, 40, 41, 42, 43, 44, 45, 46, 47, 0, 1, 2, 3, 4, 5, 6, 7, 8, 9, 10, 11, 12, 13, 14, 15, 16, 17, 18, 19, 20] (by decide) rfl
  clear hPc hDc hFc hP2 hD2 hP1 hD1 hK1 hk1 hz1
  generalize H1 = H at hP hS ⊢
  refine W.widen (k := cells + 8) (n := slots + 48) (by omega) (by omega) ?_
  refine lv_istore (lv' := [(5, .int r1), (0, .ref b), (1, .ref (a 0)), (2, .ref (d 0)), (3, .ref o), (4, .int (nI i))]) hx hb dL_law_544 hl (by decide) rfl (fun ls hl => ?_)
  refine lv_aload_n hx hb dL_law_546 rfl (lv_at hl 3 rfl) ?_
  refine lv_aload_n hx hb dL_law_547 rfl (lv_at hl 1 rfl) ?_
  refine lv_iload hx hb dL_law_548 (lv_at hl 5 rfl) ?_
  refine lv_iconst (v := 1) hx hb dL_law_550 (by decide) ?_
  refine lv_iadd hx hb dL_law_551 ?_
  refine va_sld hx hb hX hbl hbA hS (ivx (k := 1) (by decide) hi hL) dL_law_552 ?_
  have hPc := hP.sub (ws' := rw cI cZ d ρ) [28, 29, 30, 31, 32, 33, 34, 35, 36, 37, 38, 39, 40, 41, 42, 43, 44, 45, 46, 47] rfl
  have hDc := hD.sub (ws' := rw cI cZ d ρ) [28, 29, 30, 31, 32, 33, 34, 35, 36, 37, 38, 39, 40, 41, 42, 43, 44, 45, 46, 47] (by decide) rfl
  have hFc := va_free (wc := rw cI cZ d ρ) hD hS hA [28, 29, 30, 31, 32, 33, 34, 35, 36, 37, 38, 39, 40, 41, 42, 43, 44, 45, 46, 47] rfl
  refine va_callv (va_runV (As := [.int (xs (nI i + (1 : Int32)).toNatClampNeg)]) (rest := []) ⟨hx, hb, hml, hown, hts⟩ (m_X4_use l dC dI cI cZ d H.size ρ ((xs (nI i + (1 : Int32)).toNatClampNeg)) hR.2.2.1) (cwV 1 hts (gVL k_687 k_688 k_689 k_24 k_690) rfl rfl rfl (by decide +kernel) ⟨Nat.le_of_ble_eq_true rfl, Nat.le_of_ble_eq_true rfl⟩) (pv_mr (q := (RX4, TX4, 23)) (q0 := 0) (ci := 4) hKc hPc hDc rfl rfl) rfl rfl hl.1 rfl (lv_room (Nat.le_of_ble_eq_true rfl)) dL_law_553 ⟨by have := hcs.1; omega, by have := hcs.2; omega⟩) hS (fun q _ h => hFc q h) hFc (fun ρ9 t H1 locs ht hvm hw2 hB hz1 hk1 hS => ?_)
  obtain ⟨hP1, hK1, hD1⟩ := hB
  rw [ht] at hP1
  obtain ⟨hP2, hD2⟩ := va_join (wr := ow cI cZ cL a o τ g) (w1 := rw cI cZ d ρ9) hP hD [28, 29, 30, 31, 32, 33, 34, 35, 36, 37, 38, 39, 40, 41, 42, 43, 44, 45, 46, 47] [0, 1, 2, 3, 4, 5, 6, 7, 8, 9, 10, 11, 12, 13, 14, 15, 16, 17, 18, 19, 20, 21, 22, 23, 24, 25, 26, 27] rfl rfl (by decide) (by decide) hk1 hFc hP1 hD1
  have hP : va_P (dC, dI) vwCl (LW cI cZ cL a o d τ g ρ9) H1 := hP2
  have hD : va_D (lA s) (LW cI cZ cL a o d τ g ρ9) := hD2
  clear hPc hDc hFc hP2 hD2 hP1 hD1 hK1 hk1 hz1
  generalize H1 = H at hP hS ⊢
  refine W.widen (k := cells + 8) (n := slots + 48) (by omega) (by omega) ?_
  have q := st_use hR ((xs (nI i + (1 : Int32)).toNatClampNeg))
  unfold stV at q
  rw [← hw, ← hw2] at q
  have q1 : Rel τ ρ9 := q.1
  have q2 : ρ9 0 0 = r1 := q.2
  clear q
  refine lv_aload_n hx hb dL_law_556 rfl (lv_at hl 3 rfl) ?_
  have hPc := hP.sub (ws' := rw cI cZ d ρ9) [28, 29, 30, 31, 32, 33, 34, 35, 36, 37, 38, 39, 40, 41, 42, 43, 44, 45, 46, 47] rfl
  refine vp_callSi (W.runV (As := []) (rest := []) ⟨hx, hb, hml, hown, hts⟩ (m_X4_thrown l dC dI cI cZ d ρ9) (cwV 0 hts (gVL k_641 k_642 k_643 k_24 k_644) rfl rfl rfl (by decide +kernel) ⟨Nat.le_of_ble_eq_true rfl, Nat.le_of_ble_eq_true rfl⟩) (pv_rr (q := (RX4, TX4, 23)) (q0 := 0) (ci := 4) hKc hPc rfl rfl) rfl rfl hl.1 rfl (lv_room (Nat.le_of_ble_eq_true rfl)) dL_law_557 ⟨by have := hcs.1; omega, by have := hcs.2; omega⟩) (fun r8 h8 => ?_)
  have h8 : r8 = r1 := h8.trans q2
  refine lv_iload hx hb dL_law_560 (lv_at hl 0 rfl) ?_
  refine lv_icmp_eq (tgt := 567) hx hb dL_law_562 (by decide) (fun c8 => ?_) (fun c8 => absurd h8 c8)
  refine lv_goto (tgt := 1442) hx hb dL_law_567 (by decide) ?_
  exact kk _ _ _ _ _ _ q1 hP hD hS (lv_sub hl [1, 2, 3, 4, 5] rfl)
set_option maxHeartbeats 4000000 in
set_option maxRecDepth 100000 in
theorem lc_wash_0 {p : Program} {l : Launch} (hl9 : l.stackTraces = false) {e : Env} {s : State} {m : MethodId} {below : List Frame} {meth : Method} {c : Code} {dC : Nat → ClassId} {dI : Nat → Nat → Nat} {cI cZ cL : ClassId} {b L : Nat} {xs : Nat → Int32} (hL : L ≤ 3584) (C0 : lw_At p s m meth c b L xs) {zk : Nat → Nat} (hz : zz zk (lA s) s s.heap) (hK : va_K (dC, dI) vwCl (TY cI cZ cL) s) {a : Nat → Nat} {o : Nat} {d : Nat → Nat} {i : Nat} (hi : i + 7 ≤ L) (hc : xs (nI i + (2 : Int32)).toNatClampNeg = 0) {σ ρ : St} (hR : Rel σ ρ) {g : Nat → Int64} {H : Heap} {locs : List Loc} (hP : va_P (dC, dI) vwCl (LW cI cZ cL a o d σ g ρ) H) (hD : va_D (lA s) (LW cI cZ cL a o d σ g ρ)) (hS : va_S (lA s) s.heap H locs) {ls : Array Slot} (hl : lv_has ls 7 [(0, .ref b), (1, .ref (a 0)), (2, .ref (d 0)), (3, .ref o), (4, .int (nI i))]) {cells slots : Nat} (hcs : cells + 8 ≤ room_1.cells ∧ slots + 48 ≤ room_1.slots) (kk : ∀ (σ' ρ' : St) (g' : Nat → Int64) (H' : Heap) (locs' : List Loc) (ls' : Array Slot), Rel σ' ρ' → va_P (dC, dI) vwCl (LW cI cZ cL a o d σ' g' ρ') H' → va_D (lA s) (LW cI cZ cL a o d σ' g' ρ') → va_S (lA s) s.heap H' locs' → lv_has ls' 7 [(0, .ref b), (1, .ref (a 0)), (2, .ref (d 0)), (3, .ref o), (4, .int (nI i))] → W p l e room_1 s m #[Value.ref b] below meth c H' locs' (cells + 8) (slots + 48) (lw_Z below #[Value.ref b] s) (F0 m 1442 ls' [])) : W p l e room_1 s m #[Value.ref b] below meth c H locs cells slots (lw_Z below #[Value.ref b] s) (F0 m 570 ls []) := by
  obtain ⟨hx, hb, hr, hml, hown, hts, hX, hbl, hlocks, hgv⟩ := C0
  have hown : s.vm.findClass RL = some m.cls := hown
  have hA : ∀ q : Nat, s.heap.size ≤ q → lA s q := fun _ h => h
  have hbA : ¬ lA s b := Nat.not_le.mpr hbl
  have hKc : va_K (dC, dI) vwCl [(cI, .int), (cZ, .boolean)] s := hK.sub [0, 1] rfl
  refine lv_aload_n hx hb dL_law_570 rfl (lv_at hl 1 rfl) ?_
  refine lv_aload_n hx hb dL_law_571 rfl (lv_at hl 0 rfl) ?_
  refine lv_iload hx hb dL_law_572 (lv_at hl 4 rfl) ?_
  refine lv_iconst (v := 1) hx hb dL_law_574 (by decide) ?_
  refine lv_iadd hx hb dL_law_575 ?_
  refine va_sld hx hb hX hbl hbA hS (ivx (k := 1) (by decide) hi hL) dL_law_576 ?_
  refine lv_aload_n hx hb dL_law_577 rfl (lv_at hl 0 rfl) ?_
  refine lv_iload hx hb dL_law_578 (lv_at hl 4 rfl) ?_
  refine lv_iconst (v := 2) hx hb dL_law_580 (by decide) ?_
  refine lv_iadd hx hb dL_law_581 ?_
  refine va_sld hx hb hX hbl hbA hS (ivx (k := 2) (by decide) hi hL) dL_law_582 ?_
  refine lv_if_eq (tgt := 590) hx hb dL_law_583 (by decide) (fun c9 => ?_) (fun c9 => absurd hc c9)
  refine lv_iconst (v := 0) hx hb dL_law_590 (by decide) ?_
  refine lv_aload_n hx hb dL_law_591 rfl (lv_at hl 3 rfl) ?_
  have hPc := hP.sub (ws' := ow cI cZ cL a o σ g) [0, 1, 2, 3, 4, 5, 6, 7, 8, 9, 10, 11, 12, 13, 14, 15, 16, 17, 18, 19, 20, 21, 22, 23, 24, 25, 26, 27] rfl
  have hDc := hD.sub (ws' := ow cI cZ cL a o σ g) [0, 1, 2, 3, 4, 5, 6, 7, 8, 9, 10, 11, 12, 13, 14, 15, 16, 17, 18, 19, 20, 21, 22, 23, 24, 25, 26, 27] (by decide) rfl
  have hFc := va_free (wc := ow cI cZ cL a o σ g) hD hS hA [0, 1, 2, 3, 4, 5, 6, 7, 8, 9, 10, 11, 12, 13, 14, 15, 16, 17, 18, 19, 20, 21, 22, 23, 24, 25, 26, 27] rfl
  refine va_calli (vx_runSW (As := [.ref (a 0), .int (xs (nI i + (1 : Int32)).toNatClampNeg), .int (0 : Int32), .ref o]) (rest := []) ⟨hx, hb, hml, hown, hts⟩ (m_L_wash l hl9 dC dI cI cZ cL a o zk H.size σ g ((xs (nI i + (1 : Int32)).toNatClampNeg)) ((0 : Int32)) hR.2.1) (vx_cwSW 4 hts (gSL k_403 k_404 k_19 k_405) rfl rfl rfl (by decide +kernel) ⟨Nat.le_of_ble_eq_true rfl, Nat.le_of_ble_eq_true rfl⟩) (ps_ou hK hPc hDc hz hS hFc) rfl rfl hl.1 rfl (lv_room (Nat.le_of_ble_eq_true rfl)) dL_law_592 ⟨by have := hcs.1; omega, by have := hcs.2; omega⟩) hS (fun q _ h => hFc q h) hFc (fun r1 u t H1 locs ht hvm hw hB hz1 hk1 hS => ?_)
  obtain ⟨hP1, hK1, hD1⟩ := hB
  rw [ht] at hP1
  obtain ⟨τ, g1⟩ := u
  obtain ⟨hP2, hD2⟩ := va_join (wr := rw cI cZ d ρ) (w1 := ow cI cZ cL a o τ g1) hP hD [0, 1, 2, 3, 4, 5, 6, 7, 8, 9, 10, 11, 12, 13, 14, 15, 16, 17, 18, 19, 20, 21, 22, 23, 24, 25, 26, 27] [28, 29, 30, 31, 32, 33, 34, 35, 36, 37, 38, 39, 40, 41, 42, 43, 44, 45, 46, 47] rfl rfl (by decide) (by decide) hk1 hFc hP1 hD1
  have hP := hP2.sub (ws' := LW cI cZ cL a o d τ g1 ρ) [20, 21, 22, 23, 24, 25, 26, 27, 28, 29, 30, 31, 32, 33, 34, 35, 36, 37, 38, 39, 40, 41, 42, 43, 44, 45, 46, 47, 0, 1, 2, 3, 4, 5, 6, 7, 8, 9, 10, 11, 12, 13, 14, 15, 16, 17, 18, 19] rfl
  have hD := hD2.sub (ws' := LW cI cZ cL a o d τ g1 ρ) [20, 21, 22, 23, 24, 25, 26, 27, 28, 29, 30, 31, 32, 33, 34, 35, 36, 37, 38, 39, 40, 41, 42, 43, 44, 45, 46, 47, 0, 1, 2, 3, 4, 5, 6, 7, 8, 9, 10, 11, 12, 13, 14, 15, 16, 17, 18, 19] (by decide) rfl
  clear hPc hDc hFc hP2 hD2 hP1 hD1 hK1 hk1 hz1
  generalize H1 = H at hP hS ⊢
  refine W.widen (k := cells + 8) (n := slots + 48) (by omega) (by omega) ?_
  refine lv_istore (lv' := [(5, .int r1), (0, .ref b), (1, .ref (a 0)), (2, .ref (d 0)), (3, .ref o), (4, .int (nI i))]) hx hb dL_law_595 hl (by decide) rfl (fun ls hl => ?_)
  refine lv_aload_n hx hb dL_law_597 rfl (lv_at hl 3 rfl) ?_
  refine lv_aload_n hx hb dL_law_598 rfl (lv_at hl 1 rfl) ?_
  refine lv_iload hx hb dL_law_599 (lv_at hl 5 rfl) ?_
  refine lv_iconst (v := 1) hx hb dL_law_601 (by decide) ?_
  refine lv_iadd hx hb dL_law_602 ?_
  refine va_sld hx hb hX hbl hbA hS (ivx (k := 1) (by decide) hi hL) dL_law_603 ?_
  refine lv_aload_n hx hb dL_law_604 rfl (lv_at hl 1 rfl) ?_
  refine lv_iload hx hb dL_law_605 (lv_at hl 5 rfl) ?_
  refine lv_iconst (v := 2) hx hb dL_law_607 (by decide) ?_
  refine lv_iadd hx hb dL_law_608 ?_
  refine va_sld hx hb hX hbl hbA hS (ivx (k := 2) (by decide) hi hL) dL_law_609 ?_
  refine lv_if_eq (tgt := 617) hx hb dL_law_610 (by decide) (fun c9 => ?_) (fun c9 => absurd hc c9)
  refine lv_iconst (v := 0) hx hb dL_law_617 (by decide) ?_
  have hPc := hP.sub (ws' := rw cI cZ d ρ) [28, 29, 30, 31, 32, 33, 34, 35, 36, 37, 38, 39, 40, 41, 42, 43, 44, 45, 46, 47] rfl
  have hDc := hD.sub (ws' := rw cI cZ d ρ) [28, 29, 30, 31, 32, 33, 34, 35, 36, 37, 38, 39, 40, 41, 42, 43, 44, 45, 46, 47] (by decide) rfl
  have hFc := va_free (wc := rw cI cZ d ρ) hD hS hA [28, 29, 30, 31, 32, 33, 34, 35, 36, 37, 38, 39, 40, 41, 42, 43, 44, 45, 46, 47] rfl
  refine va_calli (va_runV (As := [.int (xs (nI i + (1 : Int32)).toNatClampNeg), .int (0 : Int32)]) (rest := []) ⟨hx, hb, hml, hown, hts⟩ (m_X4_wash l dC dI cI cZ d H.size ρ ((xs (nI i + (1 : Int32)).toNatClampNeg)) ((0 : Int32)) hR.2.2.1) (cwV 2 hts (gVL k_707 k_708 k_709 k_24 k_710) rfl rfl rfl (by decide +kernel) ⟨Nat.le_of_ble_eq_true rfl, Nat.le_of_ble_eq_true rfl⟩) (pv_mr (q := (RX4, TX4, 23)) (q0 := 0) (ci := 4) hKc hPc hDc rfl rfl) rfl rfl hl.1 rfl (lv_room (Nat.le_of_ble_eq_true rfl)) dL_law_618 ⟨by have := hcs.1; omega, by have := hcs.2; omega⟩) hS (fun q _ h => hFc q h) hFc (fun r2 ρ9 t H1 locs ht hvm hw2 hB hz1 hk1 hS => ?_)
  obtain ⟨hP1, hK1, hD1⟩ := hB
  rw [ht] at hP1
  obtain ⟨hP2, hD2⟩ := va_join (wr := ow cI cZ cL a o τ g1) (w1 := rw cI cZ d ρ9) hP hD [28, 29, 30, 31, 32, 33, 34, 35, 36, 37, 38, 39, 40, 41, 42, 43, 44, 45, 46, 47] [0, 1, 2, 3, 4, 5, 6, 7, 8, 9, 10, 11, 12, 13, 14, 15, 16, 17, 18, 19, 20, 21, 22, 23, 24, 25, 26, 27] rfl rfl (by decide) (by decide) hk1 hFc hP1 hD1
  have hP : va_P (dC, dI) vwCl (LW cI cZ cL a o d τ g1 ρ9) H1 := hP2
  have hD : va_D (lA s) (LW cI cZ cL a o d τ g1 ρ9) := hD2
  clear hPc hDc hFc hP2 hD2 hP1 hD1 hK1 hk1 hz1
  generalize H1 = H at hP hS ⊢
  refine W.widen (k := cells + 8) (n := slots + 48) (by omega) (by omega) ?_
  have q := st_wash hR ((xs (nI i + (1 : Int32)).toNatClampNeg)) ((0 : Int32))
  unfold stO at q
  have q := q g
  rw [← hw, ← hw2] at q
  have q1 : Rel τ ρ9 := q.1
  have q2 : ρ9 0 0 = r1 := q.2.1
  have q3 : r1 = 0 → g1 0 = r2.toInt64 := q.2.2
  clear q
  refine lv_istore (lv' := [(6, .int r2), (5, .int r1), (0, .ref b), (1, .ref (a 0)), (2, .ref (d 0)), (3, .ref o), (4, .int (nI i))]) hx hb dL_law_621 hl (by decide) rfl (fun ls hl => ?_)
  refine lv_aload_n hx hb dL_law_623 rfl (lv_at hl 4 rfl) ?_
  have hPc := hP.sub (ws' := rw cI cZ d ρ9) [28, 29, 30, 31, 32, 33, 34, 35, 36, 37, 38, 39, 40, 41, 42, 43, 44, 45, 46, 47] rfl
  refine vp_callSi (W.runV (As := []) (rest := []) ⟨hx, hb, hml, hown, hts⟩ (m_X4_thrown l dC dI cI cZ d ρ9) (cwV 0 hts (gVL k_641 k_642 k_643 k_24 k_644) rfl rfl rfl (by decide +kernel) ⟨Nat.le_of_ble_eq_true rfl, Nat.le_of_ble_eq_true rfl⟩) (pv_rr (q := (RX4, TX4, 23)) (q0 := 0) (ci := 4) hKc hPc rfl rfl) rfl rfl hl.1 rfl (lv_room (Nat.le_of_ble_eq_true rfl)) dL_law_624 ⟨by have := hcs.1; omega, by have := hcs.2; omega⟩) (fun r8 h8 => ?_)
  have h8 : r8 = r1 := h8.trans q2
  refine lv_iload hx hb dL_law_627 (lv_at hl 1 rfl) ?_
  refine lv_icmp_eq (tgt := 634) hx hb dL_law_629 (by decide) (fun c8 => ?_) (fun c8 => absurd h8 c8)
  have fin : W p l e room_1 s m #[Value.ref b] below meth c H locs (cells + 8) (slots + 48) (lw_Z below #[Value.ref b] s) (F0 m 651 ls []) := by
    refine lv_goto (tgt := 1442) hx hb dL_law_651 (by decide) ?_
    exact kk _ _ _ _ _ _ q1 hP hD hS (lv_sub hl [2, 3, 4, 5, 6] rfl)
  refine lv_iload hx hb dL_law_634 (lv_at hl 1 rfl) ?_
  refine lv_if_ne (tgt := 651) hx hb dL_law_636 (by decide) (fun _ => fin) (fun c7 => ?_)
  refine lv_aload_n hx hb dL_law_639 rfl (lv_at hl 5 rfl) ?_
  refine lv_iconst (v := 0) hx hb dL_law_640 (by decide) ?_
  refine va_lald (D := (dC, dI)) (f := g1) hx hb hK hP 27 2 rfl rfl (i := 0) (vp_lit 0 (by decide)) dL_law_641 ?_
  refine lv_iload hx hb dL_law_642 (lv_at hl 0 rfl) ?_
  refine lv_i2l hx hb dL_law_644 rfl ?_
  refine W.lcmp hx hb dL_law_645 ?_
  refine lv_if_eq (tgt := 651) hx hb dL_law_646 (by decide) (fun _ => fin) (fun c6 => absurd (lg_0 (q3 c7)) c6)
set_option maxHeartbeats 4000000 in
set_option maxRecDepth 100000 in
theorem lc_wash_1 {p : Program} {l : Launch} (hl9 : l.stackTraces = false) {e : Env} {s : State} {m : MethodId} {below : List Frame} {meth : Method} {c : Code} {dC : Nat → ClassId} {dI : Nat → Nat → Nat} {cI cZ cL : ClassId} {b L : Nat} {xs : Nat → Int32} (hL : L ≤ 3584) (C0 : lw_At p s m meth c b L xs) {zk : Nat → Nat} (hz : zz zk (lA s) s s.heap) (hK : va_K (dC, dI) vwCl (TY cI cZ cL) s) {a : Nat → Nat} {o : Nat} {d : Nat → Nat} {i : Nat} (hi : i + 7 ≤ L) (hc : ¬ xs (nI i + (2 : Int32)).toNatClampNeg = 0) {σ ρ : St} (hR : Rel σ ρ) {g : Nat → Int64} {H : Heap} {locs : List Loc} (hP : va_P (dC, dI) vwCl (LW cI cZ cL a o d σ g ρ) H) (hD : va_D (lA s) (LW cI cZ cL a o d σ g ρ)) (hS : va_S (lA s) s.heap H locs) {ls : Array Slot} (hl : lv_has ls 7 [(0, .ref b), (1, .ref (a 0)), (2, .ref (d 0)), (3, .ref o), (4, .int (nI i))]) {cells slots : Nat} (hcs : cells + 8 ≤ room_1.cells ∧ slots + 48 ≤ room_1.slots) (kk : ∀ (σ' ρ' : St) (g' : Nat → Int64) (H' : Heap) (locs' : List Loc) (ls' : Array Slot), Rel σ' ρ' → va_P (dC, dI) vwCl (LW cI cZ cL a o d σ' g' ρ') H' → va_D (lA s) (LW cI cZ cL a o d σ' g' ρ') → va_S (lA s) s.heap H' locs' → lv_has ls' 7 [(0, .ref b), (1, .ref (a 0)), (2, .ref (d 0)), (3, .ref o), (4, .int (nI i))] → W p l e room_1 s m #[Value.ref b] below meth c H' locs' (cells + 8) (slots + 48) (lw_Z below #[Value.ref b] s) (F0 m 1442 ls' [])) : W p l e room_1 s m #[Value.ref b] below meth c H locs cells slots (lw_Z below #[Value.ref b] s) (F0 m 570 ls []) := by
  obtain ⟨hx, hb, hr, hml, hown, hts, hX, hbl, hlocks, hgv⟩ := C0
  have hown : s.vm.findClass RL = some m.cls := hown
  have hA : ∀ q : Nat, s.heap.size ≤ q → lA s q := fun _ h => h
  have hbA : ¬ lA s b := Nat.not_le.mpr hbl
  have hKc : va_K (dC, dI) vwCl [(cI, .int), (cZ, .boolean)] s := hK.sub [0, 1] rfl
  refine lv_aload_n hx hb dL_law_570 rfl (lv_at hl 1 rfl) ?_
  refine lv_aload_n hx hb dL_law_571 rfl (lv_at hl 0 rfl) ?_
  refine lv_iload hx hb dL_law_572 (lv_at hl 4 rfl) ?_
  refine lv_iconst (v := 1) hx hb dL_law_574 (by decide) ?_
  refine lv_iadd hx hb dL_law_575 ?_
  refine va_sld hx hb hX hbl hbA hS (ivx (k := 1) (by decide) hi hL) dL_law_576 ?_
  refine lv_aload_n hx hb dL_law_577 rfl (lv_at hl 0 rfl) ?_
  refine lv_iload hx hb dL_law_578 (lv_at hl 4 rfl) ?_
  refine lv_iconst (v := 2) hx hb dL_law_580 (by decide) ?_
  refine lv_iadd hx hb dL_law_581 ?_
  refine va_sld hx hb hX hbl hbA hS (ivx (k := 2) (by decide) hi hL) dL_law_582 ?_
  refine lv_if_eq (tgt := 590) hx hb dL_law_583 (by decide) (fun c9 => absurd c9 hc) (fun c9 => ?_)
  refine lv_iconst (v := 1) hx hb dL_law_586 (by decide) ?_
  refine lv_goto (tgt := 591) hx hb dL_law_587 (by decide) ?_
  refine lv_aload_n hx hb dL_law_591 rfl (lv_at hl 3 rfl) ?_
  have hPc := hP.sub (ws' := ow cI cZ cL a o σ g) [0, 1, 2, 3, 4, 5, 6, 7, 8, 9, 10, 11, 12, 13, 14, 15, 16, 17, 18, 19, 20, 21, 22, 23, 24, 25, 26, 27] rfl
  have hDc := hD.sub (ws' := ow cI cZ cL a o σ g) [0, 1, 2, 3, 4, 5, 6, 7, 8, 9, 10, 11, 12, 13, 14, 15, 16, 17, 18, 19, 20, 21, 22, 23, 24, 25, 26, 27] (by decide) rfl
  have hFc := va_free (wc := ow cI cZ cL a o σ g) hD hS hA [0, 1, 2, 3, 4, 5, 6, 7, 8, 9, 10, 11, 12, 13, 14, 15, 16, 17, 18, 19, 20, 21, 22, 23, 24, 25, 26, 27] rfl
  refine va_calli (vx_runSW (As := [.ref (a 0), .int (xs (nI i + (1 : Int32)).toNatClampNeg), .int (1 : Int32), .ref o]) (rest := []) ⟨hx, hb, hml, hown, hts⟩ (m_L_wash l hl9 dC dI cI cZ cL a o zk H.size σ g ((xs (nI i + (1 : Int32)).toNatClampNeg)) ((1 : Int32)) hR.2.1) (vx_cwSW 4 hts (gSL k_403 k_404 k_19 k_405) rfl rfl rfl (by decide +kernel) ⟨Nat.le_of_ble_eq_true rfl, Nat.le_of_ble_eq_true rfl⟩) (ps_ou hK hPc hDc hz hS hFc) rfl rfl hl.1 rfl (lv_room (Nat.le_of_ble_eq_true rfl)) dL_law_592 ⟨by have := hcs.1; omega, by have := hcs.2; omega⟩) hS (fun q _ h => hFc q h) hFc (fun r1 u t H1 locs ht hvm hw hB hz1 hk1 hS => ?_)
  obtain ⟨hP1, hK1, hD1⟩ := hB
  rw [ht] at hP1
  obtain ⟨τ, g1⟩ := u
  obtain ⟨hP2, hD2⟩ := va_join (wr := rw cI cZ d ρ) (w1 := ow cI cZ cL a o τ g1) hP hD [0, 1, 2, 3, 4, 5, 6, 7, 8, 9, 10, 11, 12, 13, 14, 15, 16, 17, 18, 19, 20, 21, 22, 23, 24, 25, 26, 27] [28, 29, 30, 31, 32, 33, 34, 35, 36, 37, 38, 39, 40, 41, 42, 43, 44, 45, 46, 47] rfl rfl (by decide) (by decide) hk1 hFc hP1 hD1
  have hP := hP2.sub (ws' := LW cI cZ cL a o d τ g1 ρ) [20, 21, 22, 23, 24, 25, 26, 27, 28, 29, 30, 31, 32, 33, 34, 35, 36, 37, 38, 39, 40, 41, 42, 43, 44, 45, 46, 47, 0, 1, 2, 3, 4, 5, 6, 7, 8, 9, 10, 11, 12, 13, 14, 15, 16, 17, 18, 19] rfl
  have hD := hD2.sub (ws' := LW cI cZ cL a o d τ g1 ρ) [20, 21, 22, 23, 24, 25, 26, 27, 28, 29, 30, 31, 32, 33, 34, 35, 36, 37, 38, 39, 40, 41, 42, 43, 44, 45, 46, 47, 0, 1, 2, 3, 4, 5, 6, 7, 8, 9, 10, 11, 12, 13, 14, 15, 16, 17, 18, 19] (by decide) rfl
  clear hPc hDc hFc hP2 hD2 hP1 hD1 hK1 hk1 hz1
  generalize H1 = H at hP hS ⊢
  refine W.widen (k := cells + 8) (n := slots + 48) (by omega) (by omega) ?_
  refine lv_istore (lv' := [(5, .int r1), (0, .ref b), (1, .ref (a 0)), (2, .ref (d 0)), (3, .ref o), (4, .int (nI i))]) hx hb dL_law_595 hl (by decide) rfl (fun ls hl => ?_)
  refine lv_aload_n hx hb dL_law_597 rfl (lv_at hl 3 rfl) ?_
  refine lv_aload_n hx hb dL_law_598 rfl (lv_at hl 1 rfl) ?_
  refine lv_iload hx hb dL_law_599 (lv_at hl 5 rfl) ?_
  refine lv_iconst (v := 1) hx hb dL_law_601 (by decide) ?_
  refine lv_iadd hx hb dL_law_602 ?_
  refine va_sld hx hb hX hbl hbA hS (ivx (k := 1) (by decide) hi hL) dL_law_603 ?_
  refine lv_aload_n hx hb dL_law_604 rfl (lv_at hl 1 rfl) ?_
  refine lv_iload hx hb dL_law_605 (lv_at hl 5 rfl) ?_
  refine lv_iconst (v := 2) hx hb dL_law_607 (by decide) ?_
  refine lv_iadd hx hb dL_law_608 ?_
  refine va_sld hx hb hX hbl hbA hS (ivx (k := 2) (by decide) hi hL) dL_law_609 ?_
  refine lv_if_eq (tgt := 617) hx hb dL_law_610 (by decide) (fun c9 => absurd c9 hc) (fun c9 => ?_)
  refine lv_iconst (v := 1) hx hb dL_law_613 (by decide) ?_
  refine lv_goto (tgt := 618) hx hb dL_law_614 (by decide) ?_
  have hPc := hP.sub (ws' := rw cI cZ d ρ) [28, 29, 30, 31, 32, 33, 34, 35, 36, 37, 38, 39, 40, 41, 42, 43, 44, 45, 46, 47] rfl
  have hDc := hD.sub (ws' := rw cI cZ d ρ) [28, 29, 30, 31, 32, 33, 34, 35, 36, 37, 38, 39, 40, 41, 42, 43, 44, 45, 46, 47] (by decide) rfl
  have hFc := va_free (wc := rw cI cZ d ρ) hD hS hA [28, 29, 30, 31, 32, 33, 34, 35, 36, 37, 38, 39, 40, 41, 42, 43, 44, 45, 46, 47] rfl
  refine va_calli (va_runV (As := [.int (xs (nI i + (1 : Int32)).toNatClampNeg), .int (1 : Int32)]) (rest := []) ⟨hx, hb, hml, hown, hts⟩ (m_X4_wash l dC dI cI cZ d H.size ρ ((xs (nI i + (1 : Int32)).toNatClampNeg)) ((1 : Int32)) hR.2.2.1) (cwV 2 hts (gVL k_707 k_708 k_709 k_24 k_710) rfl rfl rfl (by decide +kernel) ⟨Nat.le_of_ble_eq_true rfl, Nat.le_of_ble_eq_true rfl⟩) (pv_mr (q := (RX4, TX4, 23)) (q0 := 0) (ci := 4) hKc hPc hDc rfl rfl) rfl rfl hl.1 rfl (lv_room (Nat.le_of_ble_eq_true rfl)) dL_law_618 ⟨by have := hcs.1; omega, by have := hcs.2; omega⟩) hS (fun q _ h => hFc q h) hFc (fun r2 ρ9 t H1 locs ht hvm hw2 hB hz1 hk1 hS => ?_)
  obtain ⟨hP1, hK1, hD1⟩ := hB
  rw [ht] at hP1
  obtain ⟨hP2, hD2⟩ := va_join (wr := ow cI cZ cL a o τ g1) (w1 := rw cI cZ d ρ9) hP hD [28, 29, 30, 31, 32, 33, 34, 35, 36, 37, 38, 39, 40, 41, 42, 43, 44, 45, 46, 47] [0, 1, 2, 3, 4, 5, 6, 7, 8, 9, 10, 11, 12, 13, 14, 15, 16, 17, 18, 19, 20, 21, 22, 23, 24, 25, 26, 27] rfl rfl (by decide) (by decide) hk1 hFc hP1 hD1
  have hP : va_P (dC, dI) vwCl (LW cI cZ cL a o d τ g1 ρ9) H1 := hP2
  have hD : va_D (lA s) (LW cI cZ cL a o d τ g1 ρ9) := hD2
  clear hPc hDc hFc hP2 hD2 hP1 hD1 hK1 hk1 hz1
  generalize H1 = H at hP hS ⊢
  refine W.widen (k := cells + 8) (n := slots + 48) (by omega) (by omega) ?_
  have q := st_wash hR ((xs (nI i + (1 : Int32)).toNatClampNeg)) ((1 : Int32))
  unfold stO at q
  have q := q g
  rw [← hw, ← hw2] at q
  have q1 : Rel τ ρ9 := q.1
  have q2 : ρ9 0 0 = r1 := q.2.1
  have q3 : r1 = 0 → g1 0 = r2.toInt64 := q.2.2
  clear q
  refine lv_istore (lv' := [(6, .int r2), (5, .int r1), (0, .ref b), (1, .ref (a 0)), (2, .ref (d 0)), (3, .ref o), (4, .int (nI i))]) hx hb dL_law_621 hl (by decide) rfl (fun ls hl => ?_)
  refine lv_aload_n hx hb dL_law_623 rfl (lv_at hl 4 rfl) ?_
  have hPc := hP.sub (ws' := rw cI cZ d ρ9) [28, 29, 30, 31, 32, 33, 34, 35, 36, 37, 38, 39, 40, 41, 42, 43, 44, 45, 46, 47] rfl
  refine vp_callSi (W.runV (As := []) (rest := []) ⟨hx, hb, hml, hown, hts⟩ (m_X4_thrown l dC dI cI cZ d ρ9) (cwV 0 hts (gVL k_641 k_642 k_643 k_24 k_644) rfl rfl rfl (by decide +kernel) ⟨Nat.le_of_ble_eq_true rfl, Nat.le_of_ble_eq_true rfl⟩) (pv_rr (q := (RX4, TX4, 23)) (q0 := 0) (ci := 4) hKc hPc rfl rfl) rfl rfl hl.1 rfl (lv_room (Nat.le_of_ble_eq_true rfl)) dL_law_624 ⟨by have := hcs.1; omega, by have := hcs.2; omega⟩) (fun r8 h8 => ?_)
  have h8 : r8 = r1 := h8.trans q2
  refine lv_iload hx hb dL_law_627 (lv_at hl 1 rfl) ?_
  refine lv_icmp_eq (tgt := 634) hx hb dL_law_629 (by decide) (fun c8 => ?_) (fun c8 => absurd h8 c8)
  have fin : W p l e room_1 s m #[Value.ref b] below meth c H locs (cells + 8) (slots + 48) (lw_Z below #[Value.ref b] s) (F0 m 651 ls []) := by
    refine lv_goto (tgt := 1442) hx hb dL_law_651 (by decide) ?_
    exact kk _ _ _ _ _ _ q1 hP hD hS (lv_sub hl [2, 3, 4, 5, 6] rfl)
  refine lv_iload hx hb dL_law_634 (lv_at hl 1 rfl) ?_
  refine lv_if_ne (tgt := 651) hx hb dL_law_636 (by decide) (fun _ => fin) (fun c7 => ?_)
  refine lv_aload_n hx hb dL_law_639 rfl (lv_at hl 5 rfl) ?_
  refine lv_iconst (v := 0) hx hb dL_law_640 (by decide) ?_
  refine va_lald (D := (dC, dI)) (f := g1) hx hb hK hP 27 2 rfl rfl (i := 0) (vp_lit 0 (by decide)) dL_law_641 ?_
  refine lv_iload hx hb dL_law_642 (lv_at hl 0 rfl) ?_
  refine lv_i2l hx hb dL_law_644 rfl ?_
  refine W.lcmp hx hb dL_law_645 ?_
  refine lv_if_eq (tgt := 651) hx hb dL_law_646 (by decide) (fun _ => fin) (fun c6 => absurd (lg_0 (q3 c7)) c6)
set_option maxHeartbeats 4000000 in
set_option maxRecDepth 100000 in
theorem lc_result {p : Program} {l : Launch} (hl9 : l.stackTraces = false) {e : Env} {s : State} {m : MethodId} {below : List Frame} {meth : Method} {c : Code} {dC : Nat → ClassId} {dI : Nat → Nat → Nat} {cI cZ cL : ClassId} {b L : Nat} {xs : Nat → Int32} (hL : L ≤ 3584) (C0 : lw_At p s m meth c b L xs) {zk : Nat → Nat} (hz : zz zk (lA s) s s.heap) (hK : va_K (dC, dI) vwCl (TY cI cZ cL) s) {a : Nat → Nat} {o : Nat} {d : Nat → Nat} {i : Nat} (hi : i + 7 ≤ L) {σ ρ : St} (hR : Rel σ ρ) {g : Nat → Int64} {H : Heap} {locs : List Loc} (hP : va_P (dC, dI) vwCl (LW cI cZ cL a o d σ g ρ) H) (hD : va_D (lA s) (LW cI cZ cL a o d σ g ρ)) (hS : va_S (lA s) s.heap H locs) {ls : Array Slot} (hl : lv_has ls 7 [(0, .ref b), (1, .ref (a 0)), (2, .ref (d 0)), (3, .ref o), (4, .int (nI i))]) {cells slots : Nat} (hcs : cells + 8 ≤ room_1.cells ∧ slots + 48 ≤ room_1.slots) (kk : ∀ (σ' ρ' : St) (g' : Nat → Int64) (H' : Heap) (locs' : List Loc) (ls' : Array Slot), Rel σ' ρ' → va_P (dC, dI) vwCl (LW cI cZ cL a o d σ' g' ρ') H' → va_D (lA s) (LW cI cZ cL a o d σ' g' ρ') → va_S (lA s) s.heap H' locs' → lv_has ls' 7 [(0, .ref b), (1, .ref (a 0)), (2, .ref (d 0)), (3, .ref o), (4, .int (nI i))] → W p l e room_1 s m #[Value.ref b] below meth c H' locs' (cells + 8) (slots + 48) (lw_Z below #[Value.ref b] s) (F0 m 1442 ls' [])) : W p l e room_1 s m #[Value.ref b] below meth c H locs cells slots (lw_Z below #[Value.ref b] s) (F0 m 654 ls []) := by
  obtain ⟨hx, hb, hr, hml, hown, hts, hX, hbl, hlocks, hgv⟩ := C0
  have hown : s.vm.findClass RL = some m.cls := hown
  have hA : ∀ q : Nat, s.heap.size ≤ q → lA s q := fun _ h => h
  have hbA : ¬ lA s b := Nat.not_le.mpr hbl
  have hKc : va_K (dC, dI) vwCl [(cI, .int), (cZ, .boolean)] s := hK.sub [0, 1] rfl
  refine lv_aload_n hx hb dL_law_654 rfl (lv_at hl 1 rfl) ?_
  refine lv_aload_n hx hb dL_law_655 rfl (lv_at hl 0 rfl) ?_
  refine lv_iload hx hb dL_law_656 (lv_at hl 4 rfl) ?_
  refine lv_iconst (v := 1) hx hb dL_law_658 (by decide) ?_
  refine lv_iadd hx hb dL_law_659 ?_
  refine va_sld hx hb hX hbl hbA hS (ivx (k := 1) (by decide) hi hL) dL_law_660 ?_
  refine lv_aload_n hx hb dL_law_661 rfl (lv_at hl 0 rfl) ?_
  refine lv_iload hx hb dL_law_662 (lv_at hl 4 rfl) ?_
  refine lv_iconst (v := 2) hx hb dL_law_664 (by decide) ?_
  refine lv_iadd hx hb dL_law_665 ?_
  refine va_sld hx hb hX hbl hbA hS (ivx (k := 2) (by decide) hi hL) dL_law_666 ?_
  refine lv_aload_n hx hb dL_law_667 rfl (lv_at hl 0 rfl) ?_
  refine lv_iload hx hb dL_law_668 (lv_at hl 4 rfl) ?_
  refine lv_iconst (v := 3) hx hb dL_law_670 (by decide) ?_
  refine lv_iadd hx hb dL_law_671 ?_
  refine va_sld hx hb hX hbl hbA hS (ivx (k := 3) (by decide) hi hL) dL_law_672 ?_
  refine lv_aload_n hx hb dL_law_673 rfl (lv_at hl 3 rfl) ?_
  have hPc := hP.sub (ws' := ow cI cZ cL a o σ g) [0, 1, 2, 3, 4, 5, 6, 7, 8, 9, 10, 11, 12, 13, 14, 15, 16, 17, 18, 19, 20, 21, 22, 23, 24, 25, 26, 27] rfl
  have hDc := hD.sub (ws' := ow cI cZ cL a o σ g) [0, 1, 2, 3, 4, 5, 6, 7, 8, 9, 10, 11, 12, 13, 14, 15, 16, 17, 18, 19, 20, 21, 22, 23, 24, 25, 26, 27] (by decide) rfl
  have hFc := va_free (wc := ow cI cZ cL a o σ g) hD hS hA [0, 1, 2, 3, 4, 5, 6, 7, 8, 9, 10, 11, 12, 13, 14, 15, 16, 17, 18, 19, 20, 21, 22, 23, 24, 25, 26, 27] rfl
  refine va_calli (vx_runSW (As := [.ref (a 0), .int (xs (nI i + (1 : Int32)).toNatClampNeg), .int (xs (nI i + (2 : Int32)).toNatClampNeg), .int (xs (nI i + (3 : Int32)).toNatClampNeg), .ref o]) (rest := []) ⟨hx, hb, hml, hown, hts⟩ (m_L_result l hl9 dC dI cI cZ cL a o zk H.size σ g ((xs (nI i + (1 : Int32)).toNatClampNeg)) ((xs (nI i + (2 : Int32)).toNatClampNeg)) ((xs (nI i + (3 : Int32)).toNatClampNeg)) hR.2.1) (vx_cwSW 5 hts (gSL k_410 k_411 k_19 k_412) rfl rfl rfl (by decide +kernel) ⟨Nat.le_of_ble_eq_true rfl, Nat.le_of_ble_eq_true rfl⟩) (ps_ou hK hPc hDc hz hS hFc) rfl rfl hl.1 rfl (lv_room (Nat.le_of_ble_eq_true rfl)) dL_law_674 ⟨by have := hcs.1; omega, by have := hcs.2; omega⟩) hS (fun q _ h => hFc q h) hFc (fun r1 u t H1 locs ht hvm hw hB hz1 hk1 hS => ?_)
  obtain ⟨hP1, hK1, hD1⟩ := hB
  rw [ht] at hP1
  obtain ⟨τ, g1⟩ := u
  obtain ⟨hP2, hD2⟩ := va_join (wr := rw cI cZ d ρ) (w1 := ow cI cZ cL a o τ g1) hP hD [0, 1, 2, 3, 4, 5, 6, 7, 8, 9, 10, 11, 12, 13, 14, 15, 16, 17, 18, 19, 20, 21, 22, 23, 24, 25, 26, 27] [28, 29, 30, 31, 32, 33, 34, 35, 36, 37, 38, 39, 40, 41, 42, 43, 44, 45, 46, 47] rfl rfl (by decide) (by decide) hk1 hFc hP1 hD1
  have hP := hP2.sub (ws' := LW cI cZ cL a o d τ g1 ρ) [20, 21, 22, 23, 24, 25, 26, 27, 28, 29, 30, 31, 32, 33, 34, 35, 36, 37, 38, 39, 40, 41, 42, 43, 44, 45, 46, 47, 0, 1, 2, 3, 4, 5, 6, 7, 8, 9, 10, 11, 12, 13, 14, 15, 16, 17, 18, 19] rfl
  have hD := hD2.sub (ws' := LW cI cZ cL a o d τ g1 ρ) [20, 21, 22, 23, 24, 25, 26, 27, 28, 29, 30, 31, 32, 33, 34, 35, 36, 37, 38, 39, 40, 41, 42, 43, 44, 45, 46, 47, 0, 1, 2, 3, 4, 5, 6, 7, 8, 9, 10, 11, 12, 13, 14, 15, 16, 17, 18, 19] (by decide) rfl
  clear hPc hDc hFc hP2 hD2 hP1 hD1 hK1 hk1 hz1
  generalize H1 = H at hP hS ⊢
  refine W.widen (k := cells + 8) (n := slots + 48) (by omega) (by omega) ?_
  refine lv_istore (lv' := [(5, .int r1), (0, .ref b), (1, .ref (a 0)), (2, .ref (d 0)), (3, .ref o), (4, .int (nI i))]) hx hb dL_law_677 hl (by decide) rfl (fun ls hl => ?_)
  refine lv_aload_n hx hb dL_law_679 rfl (lv_at hl 3 rfl) ?_
  refine lv_aload_n hx hb dL_law_680 rfl (lv_at hl 1 rfl) ?_
  refine lv_iload hx hb dL_law_681 (lv_at hl 5 rfl) ?_
  refine lv_iconst (v := 1) hx hb dL_law_683 (by decide) ?_
  refine lv_iadd hx hb dL_law_684 ?_
  refine va_sld hx hb hX hbl hbA hS (ivx (k := 1) (by decide) hi hL) dL_law_685 ?_
  refine lv_aload_n hx hb dL_law_686 rfl (lv_at hl 1 rfl) ?_
  refine lv_iload hx hb dL_law_687 (lv_at hl 5 rfl) ?_
  refine lv_iconst (v := 2) hx hb dL_law_689 (by decide) ?_
  refine lv_iadd hx hb dL_law_690 ?_
  refine va_sld hx hb hX hbl hbA hS (ivx (k := 2) (by decide) hi hL) dL_law_691 ?_
  refine lv_aload_n hx hb dL_law_692 rfl (lv_at hl 1 rfl) ?_
  refine lv_iload hx hb dL_law_693 (lv_at hl 5 rfl) ?_
  refine lv_iconst (v := 3) hx hb dL_law_695 (by decide) ?_
  refine lv_iadd hx hb dL_law_696 ?_
  refine va_sld hx hb hX hbl hbA hS (ivx (k := 3) (by decide) hi hL) dL_law_697 ?_
  have hPc := hP.sub (ws' := rw cI cZ d ρ) [28, 29, 30, 31, 32, 33, 34, 35, 36, 37, 38, 39, 40, 41, 42, 43, 44, 45, 46, 47] rfl
  have hDc := hD.sub (ws' := rw cI cZ d ρ) [28, 29, 30, 31, 32, 33, 34, 35, 36, 37, 38, 39, 40, 41, 42, 43, 44, 45, 46, 47] (by decide) rfl
  have hFc := va_free (wc := rw cI cZ d ρ) hD hS hA [28, 29, 30, 31, 32, 33, 34, 35, 36, 37, 38, 39, 40, 41, 42, 43, 44, 45, 46, 47] rfl
  refine va_calli (va_runV (As := [.int (xs (nI i + (1 : Int32)).toNatClampNeg), .int (xs (nI i + (2 : Int32)).toNatClampNeg), .int (xs (nI i + (3 : Int32)).toNatClampNeg)]) (rest := []) ⟨hx, hb, hml, hown, hts⟩ (m_X4_result l dC dI cI cZ d H.size ρ ((xs (nI i + (1 : Int32)).toNatClampNeg)) ((xs (nI i + (2 : Int32)).toNatClampNeg)) ((xs (nI i + (3 : Int32)).toNatClampNeg)) hR.2.2.1) (cwV 3 hts (gVL k_711 k_712 k_713 k_24 k_714) rfl rfl rfl (by decide +kernel) ⟨Nat.le_of_ble_eq_true rfl, Nat.le_of_ble_eq_true rfl⟩) (pv_mr (q := (RX4, TX4, 23)) (q0 := 0) (ci := 4) hKc hPc hDc rfl rfl) rfl rfl hl.1 rfl (lv_room (Nat.le_of_ble_eq_true rfl)) dL_law_698 ⟨by have := hcs.1; omega, by have := hcs.2; omega⟩) hS (fun q _ h => hFc q h) hFc (fun r2 ρ9 t H1 locs ht hvm hw2 hB hz1 hk1 hS => ?_)
  obtain ⟨hP1, hK1, hD1⟩ := hB
  rw [ht] at hP1
  obtain ⟨hP2, hD2⟩ := va_join (wr := ow cI cZ cL a o τ g1) (w1 := rw cI cZ d ρ9) hP hD [28, 29, 30, 31, 32, 33, 34, 35, 36, 37, 38, 39, 40, 41, 42, 43, 44, 45, 46, 47] [0, 1, 2, 3, 4, 5, 6, 7, 8, 9, 10, 11, 12, 13, 14, 15, 16, 17, 18, 19, 20, 21, 22, 23, 24, 25, 26, 27] rfl rfl (by decide) (by decide) hk1 hFc hP1 hD1
  have hP : va_P (dC, dI) vwCl (LW cI cZ cL a o d τ g1 ρ9) H1 := hP2
  have hD : va_D (lA s) (LW cI cZ cL a o d τ g1 ρ9) := hD2
  clear hPc hDc hFc hP2 hD2 hP1 hD1 hK1 hk1 hz1
  generalize H1 = H at hP hS ⊢
  refine W.widen (k := cells + 8) (n := slots + 48) (by omega) (by omega) ?_
  have q := st_result hR ((xs (nI i + (1 : Int32)).toNatClampNeg)) ((xs (nI i + (2 : Int32)).toNatClampNeg)) ((xs (nI i + (3 : Int32)).toNatClampNeg))
  unfold stO at q
  have q := q g
  rw [← hw, ← hw2] at q
  have q1 : Rel τ ρ9 := q.1
  have q2 : ρ9 0 0 = r1 := q.2.1
  have q3 : r1 = 0 → g1 0 = r2.toInt64 := q.2.2
  clear q
  refine lv_istore (lv' := [(6, .int r2), (5, .int r1), (0, .ref b), (1, .ref (a 0)), (2, .ref (d 0)), (3, .ref o), (4, .int (nI i))]) hx hb dL_law_701 hl (by decide) rfl (fun ls hl => ?_)
  refine lv_aload_n hx hb dL_law_703 rfl (lv_at hl 4 rfl) ?_
  have hPc := hP.sub (ws' := rw cI cZ d ρ9) [28, 29, 30, 31, 32, 33, 34, 35, 36, 37, 38, 39, 40, 41, 42, 43, 44, 45, 46, 47] rfl
  refine vp_callSi (W.runV (As := []) (rest := []) ⟨hx, hb, hml, hown, hts⟩ (m_X4_thrown l dC dI cI cZ d ρ9) (cwV 0 hts (gVL k_641 k_642 k_643 k_24 k_644) rfl rfl rfl (by decide +kernel) ⟨Nat.le_of_ble_eq_true rfl, Nat.le_of_ble_eq_true rfl⟩) (pv_rr (q := (RX4, TX4, 23)) (q0 := 0) (ci := 4) hKc hPc rfl rfl) rfl rfl hl.1 rfl (lv_room (Nat.le_of_ble_eq_true rfl)) dL_law_704 ⟨by have := hcs.1; omega, by have := hcs.2; omega⟩) (fun r8 h8 => ?_)
  have h8 : r8 = r1 := h8.trans q2
  refine lv_iload hx hb dL_law_707 (lv_at hl 1 rfl) ?_
  refine lv_icmp_eq (tgt := 714) hx hb dL_law_709 (by decide) (fun c8 => ?_) (fun c8 => absurd h8 c8)
  have fin : W p l e room_1 s m #[Value.ref b] below meth c H locs (cells + 8) (slots + 48) (lw_Z below #[Value.ref b] s) (F0 m 731 ls []) := by
    refine lv_goto (tgt := 1442) hx hb dL_law_731 (by decide) ?_
    exact kk _ _ _ _ _ _ q1 hP hD hS (lv_sub hl [2, 3, 4, 5, 6] rfl)
  refine lv_iload hx hb dL_law_714 (lv_at hl 1 rfl) ?_
  refine lv_if_ne (tgt := 731) hx hb dL_law_716 (by decide) (fun _ => fin) (fun c7 => ?_)
  refine lv_aload_n hx hb dL_law_719 rfl (lv_at hl 5 rfl) ?_
  refine lv_iconst (v := 0) hx hb dL_law_720 (by decide) ?_
  refine va_lald (D := (dC, dI)) (f := g1) hx hb hK hP 27 2 rfl rfl (i := 0) (vp_lit 0 (by decide)) dL_law_721 ?_
  refine lv_iload hx hb dL_law_722 (lv_at hl 0 rfl) ?_
  refine lv_i2l hx hb dL_law_724 rfl ?_
  refine W.lcmp hx hb dL_law_725 ?_
  refine lv_if_eq (tgt := 731) hx hb dL_law_726 (by decide) (fun _ => fin) (fun c6 => absurd (lg_0 (q3 c7)) c6)
