set_option maxHeartbeats 4000000 in
set_option maxRecDepth 100000 in
theorem lc_week {p : Program} {l : Launch} (hl9 : l.stackTraces = false) {e : Env} {s : State} {m : MethodId} {below : List Frame} {meth : Method} {c : Code} {dC : Nat → ClassId} {dI : Nat → Nat → Nat} {cI cZ cL : ClassId} {b L : Nat} {xs : Nat → Int32} (hL : L ≤ 3584) (C0 : lw_At p s m meth c b L xs) {zk : Nat → Nat} (hz : zz zk (lA s) s s.heap) (hK : va_K (dC, dI) vwCl (TY cI cZ cL) s) {a : Nat → Nat} {o : Nat} {d : Nat → Nat} {i : Nat} (hi : i + 7 ≤ L) {σ ρ : St} (hR : Rel σ ρ) {g : Nat → Int64} {H : Heap} {locs : List Loc} (hP : va_P (dC, dI) vwCl (LW cI cZ cL a o d σ g ρ) H) (hD : va_D (lA s) (LW cI cZ cL a o d σ g ρ)) (hS : va_S (lA s) s.heap H locs) {ls : Array Slot} (hl : lv_has ls 7 [(0, .ref b), (1, .ref (a 0)), (2, .ref (d 0)), (3, .ref o), (4, .int (nI i))]) {cells slots : Nat} (hcs : cells + 8 ≤ room_1.cells ∧ slots + 48 ≤ room_1.slots) (kk : ∀ (σ' ρ' : St) (g' : Nat → Int64) (H' : Heap) (locs' : List Loc) (ls' : Array Slot), Rel σ' ρ' → va_P (dC, dI) vwCl (LW cI cZ cL a o d σ' g' ρ') H' → va_D (lA s) (LW cI cZ cL a o d σ' g' ρ') → va_S (lA s) s.heap H' locs' → lv_has ls' 7 [(0, .ref b), (1, .ref (a 0)), (2, .ref (d 0)), (3, .ref o), (4, .int (nI i))] → W p l e room_1 s m #[Value.ref b] below meth c H' locs' (cells + 8) (slots + 48) (lw_Z below #[Value.ref b] s) (F0 m 1442 ls' [])) : W p l e room_1 s m #[Value.ref b] below meth c H locs cells slots (lw_Z below #[Value.ref b] s) (F0 m 1386 ls []) := by
  obtain ⟨hx, hb, hr, hml, hown, hts, hX, hbl, hlocks, hgv⟩ := C0
  have hown : s.vm.findClass RL = some m.cls := hown
  have hA : ∀ q : Nat, s.heap.size ≤ q → lA s q := fun _ h => h
  have hbA : ¬ lA s b := Nat.not_le.mpr hbl
  have hKc : va_K (dC, dI) vwCl [(cI, .int), (cZ, .boolean)] s := hK.sub [0, 1] rfl
  refine lv_aload_n hx hb dL_law_1386 rfl (lv_at hl 1 rfl) ?_
  refine lv_aload_n hx hb dL_law_1387 rfl (lv_at hl 0 rfl) ?_
  refine lv_iload hx hb dL_law_1388 (lv_at hl 4 rfl) ?_
  refine lv_iconst (v := 1) hx hb dL_law_1390 (by decide) ?_
  refine lv_iadd hx hb dL_law_1391 ?_
  refine va_sld hx hb hX hbl hbA hS (ivx (k := 1) (by decide) hi hL) dL_law_1392 ?_
  refine lv_aload_n hx hb dL_law_1393 rfl (lv_at hl 3 rfl) ?_
  have hPc := hP.sub (ws' := ow cI cZ cL a o σ g) [0, 1, 2, 3, 4, 5, 6, 7, 8, 9, 10, 11, 12, 13, 14, 15, 16, 17, 18, 19, 20, 21, 22, 23, 24, 25, 26, 27] rfl
  have hDc := hD.sub (ws' := ow cI cZ cL a o σ g) [0, 1, 2, 3, 4, 5, 6, 7, 8, 9, 10, 11, 12, 13, 14, 15, 16, 17, 18, 19, 20, 21, 22, 23, 24, 25, 26, 27] (by decide) rfl
  have hFc := va_free (wc := ow cI cZ cL a o σ g) hD hS hA [0, 1, 2, 3, 4, 5, 6, 7, 8, 9, 10, 11, 12, 13, 14, 15, 16, 17, 18, 19, 20, 21, 22, 23, 24, 25, 26, 27] rfl
  refine va_calli (vx_runSW (As := [.ref (a 0), .int (xs (nI i + (1 : Int32)).toNatClampNeg), .ref o]) (rest := []) ⟨hx, hb, hml, hown, hts⟩ (m_L_week l hl9 dC dI cI cZ cL a o zk H.size σ g ((xs (nI i + (1 : Int32)).toNatClampNeg)) hR.2.1) (vx_cwSW 3 hts (gSL k_558 k_559 k_19 k_560) rfl rfl rfl (by decide +kernel) ⟨Nat.le_of_ble_eq_true rfl, Nat.le_of_ble_eq_true rfl⟩) (ps_ou hK hPc hDc hz hS hFc) rfl rfl hl.1 rfl (lv_room (Nat.le_of_ble_eq_true rfl)) dL_law_1394 ⟨by have := hcs.1; omega, by have := hcs.2; omega⟩) hS (fun q _ h => hFc q h) hFc (fun r1 u t H1 locs ht hvm hw hB hz1 hk1 hS => ?_)
  obtain ⟨hP1, hK1, hD1⟩ := hB
  rw [ht] at hP1
  obtain ⟨τ, g1⟩ := u
  obtain ⟨hP2, hD2⟩ := va_join (wr := rw cI cZ d ρ) (w1 := ow cI cZ cL a o τ g1) hP hD [0, 1, 2, 3, 4, 5, 6, 7, 8, 9, 10, 11, 12, 13, 14, 15, 16, 17, 18, 19, 20, 21, 22, 23, 24, 25, 26, 27] [28, 29, 30, 31, 32, 33, 34, 35, 36, 37, 38, 39, 40, 41, 42, 43, 44, 45, 46, 47] rfl rfl (by decide) (by decide) hk1 hFc hP1 hD1
  have hP := hP2.sub (ws' := LW cI cZ cL a o d τ g1 ρ) [20, 21, 22, 23, 24, 25, 26, 27, 28, 29, 30, 31, 32, 33, 34, 35, 36, 37, 38, 39, 40, 41, 42, 43, 44, 45, 46, 47, 0, 1, 2, 3, 4, 5, 6, 7, 8, 9, 10, 11, 12, 13, 14, 15, 16, 17, 18, 19] rfl
  have hD := hD2.sub (ws' := LW cI cZ cL a o d τ g1 ρ) [20, 21, 22, 23, 24, 25, 26, 27, 28, 29, 30, 31, 32, 33, 34, 35, 36, 37, 38, 39, 40, 41, 42, 43, 44, 45, 46, 47, 0, 1, 2, 3, 4, 5, 6, 7, 8, 9, 10, 11, 12, 13, 14, 15, 16, 17, 18, 19] (by decide) rfl
  clear hPc hDc hFc hP2 hD2 hP1 hD1 hK1 hk1 hz1
  generalize H1 = H at hP hS ⊢
  refine W.widen (k := cells + 8) (n := slots + 48) (by omega) (by omega) ?_
  refine lv_istore (lv' := [(5, .int r1), (0, .ref b), (1, .ref (a 0)), (2, .ref (d 0)), (3, .ref o), (4, .int (nI i))]) hx hb dL_law_1397 hl (by decide) rfl (fun ls hl => ?_)
  refine lv_aload_n hx hb dL_law_1399 rfl (lv_at hl 3 rfl) ?_
  refine lv_aload_n hx hb dL_law_1400 rfl (lv_at hl 1 rfl) ?_
  refine lv_iload hx hb dL_law_1401 (lv_at hl 5 rfl) ?_
  refine lv_iconst (v := 1) hx hb dL_law_1403 (by decide) ?_
  refine lv_iadd hx hb dL_law_1404 ?_
  refine va_sld hx hb hX hbl hbA hS (ivx (k := 1) (by decide) hi hL) dL_law_1405 ?_
  have hPc := hP.sub (ws' := rw cI cZ d ρ) [28, 29, 30, 31, 32, 33, 34, 35, 36, 37, 38, 39, 40, 41, 42, 43, 44, 45, 46, 47] rfl
  have hDc := hD.sub (ws' := rw cI cZ d ρ) [28, 29, 30, 31, 32, 33, 34, 35, 36, 37, 38, 39, 40, 41, 42, 43, 44, 45, 46, 47] (by decide) rfl
  have hFc := va_free (wc := rw cI cZ d ρ) hD hS hA [28, 29, 30, 31, 32, 33, 34, 35, 36, 37, 38, 39, 40, 41, 42, 43, 44, 45, 46, 47] rfl
  refine va_calli (va_runV (As := [.int (xs (nI i + (1 : Int32)).toNatClampNeg)]) (rest := []) ⟨hx, hb, hml, hown, hts⟩ (m_X4_week l dC dI cI cZ d H.size ρ ((xs (nI i + (1 : Int32)).toNatClampNeg)) hR.2.2.1) (cwV 1 hts (gVL k_767 k_768 k_769 k_24 k_770) rfl rfl rfl (by decide +kernel) ⟨Nat.le_of_ble_eq_true rfl, Nat.le_of_ble_eq_true rfl⟩) (pv_mr (q := (RX4, TX4, 23)) (q0 := 0) (ci := 4) hKc hPc hDc rfl rfl) rfl rfl hl.1 rfl (lv_room (Nat.le_of_ble_eq_true rfl)) dL_law_1406 ⟨by have := hcs.1; omega, by have := hcs.2; omega⟩) hS (fun q _ h => hFc q h) hFc (fun r2 ρ9 t H1 locs ht hvm hw2 hB hz1 hk1 hS => ?_)
  obtain ⟨hP1, hK1, hD1⟩ := hB
  rw [ht] at hP1
  obtain ⟨hP2, hD2⟩ := va_join (wr := ow cI cZ cL a o τ g1) (w1 := rw cI cZ d ρ9) hP hD [28, 29, 30, 31, 32, 33, 34, 35, 36, 37, 38, 39, 40, 41, 42, 43, 44, 45, 46, 47] [0, 1, 2, 3, 4, 5, 6, 7, 8, 9, 10, 11, 12, 13, 14, 15, 16, 17, 18, 19, 20, 21, 22, 23, 24, 25, 26, 27] rfl rfl (by decide) (by decide) hk1 hFc hP1 hD1
  have hP : va_P (dC, dI) vwCl (LW cI cZ cL a o d τ g1 ρ9) H1 := hP2
  have hD : va_D (lA s) (LW cI cZ cL a o d τ g1 ρ9) := hD2
  clear hPc hDc hFc hP2 hD2 hP1 hD1 hK1 hk1 hz1
  generalize H1 = H at hP hS ⊢
  refine W.widen (k := cells + 8) (n := slots + 48) (by omega) (by omega) ?_
  have q := st_week hR ((xs (nI i + (1 : Int32)).toNatClampNeg))
  unfold stO at q
  have q := q g
  rw [← hw, ← hw2] at q
  have q1 : Rel τ ρ9 := q.1
  have q2 : ρ9 0 0 = r1 := q.2.1
  have q3 : r1 = 0 → g1 0 = r2.toInt64 := q.2.2
  clear q
  refine lv_istore (lv' := [(6, .int r2), (5, .int r1), (0, .ref b), (1, .ref (a 0)), (2, .ref (d 0)), (3, .ref o), (4, .int (nI i))]) hx hb dL_law_1409 hl (by decide) rfl (fun ls hl => ?_)
  refine lv_aload_n hx hb dL_law_1411 rfl (lv_at hl 4 rfl) ?_
  have hPc := hP.sub (ws' := rw cI cZ d ρ9) [28, 29, 30, 31, 32, 33, 34, 35, 36, 37, 38, 39, 40, 41, 42, 43, 44, 45, 46, 47] rfl
  refine vp_callSi (W.runV (As := []) (rest := []) ⟨hx, hb, hml, hown, hts⟩ (m_X4_thrown l dC dI cI cZ d ρ9) (cwV 0 hts (gVL k_641 k_642 k_643 k_24 k_644) rfl rfl rfl (by decide +kernel) ⟨Nat.le_of_ble_eq_true rfl, Nat.le_of_ble_eq_true rfl⟩) (pv_rr (q := (RX4, TX4, 23)) (q0 := 0) (ci := 4) hKc hPc rfl rfl) rfl rfl hl.1 rfl (lv_room (Nat.le_of_ble_eq_true rfl)) dL_law_1412 ⟨by have := hcs.1; omega, by have := hcs.2; omega⟩) (fun r8 h8 => ?_)
  have h8 : r8 = r1 := h8.trans q2
  refine lv_iload hx hb dL_law_1415 (lv_at hl 1 rfl) ?_
  refine lv_icmp_eq (tgt := 1422) hx hb dL_law_1417 (by decide) (fun c8 => ?_) (fun c8 => absurd h8 c8)
  have fin : W p l e room_1 s m #[Value.ref b] below meth c H locs (cells + 8) (slots + 48) (lw_Z below #[Value.ref b] s) (F0 m 1439 ls []) := by
    refine lv_goto (tgt := 1442) hx hb dL_law_1439 (by decide) ?_
    exact kk _ _ _ _ _ _ q1 hP hD hS (lv_sub hl [2, 3, 4, 5, 6] rfl)
  refine lv_iload hx hb dL_law_1422 (lv_at hl 1 rfl) ?_
  refine lv_if_ne (tgt := 1439) hx hb dL_law_1424 (by decide) (fun _ => fin) (fun c7 => ?_)
  refine lv_aload_n hx hb dL_law_1427 rfl (lv_at hl 5 rfl) ?_
  refine lv_iconst (v := 0) hx hb dL_law_1428 (by decide) ?_
  refine va_lald (D := (dC, dI)) (f := g1) hx hb hK hP 27 2 rfl rfl (i := 0) (vp_lit 0 (by decide)) dL_law_1429 ?_
  refine lv_iload hx hb dL_law_1430 (lv_at hl 0 rfl) ?_
  refine lv_i2l hx hb dL_law_1432 rfl ?_
  refine W.lcmp hx hb dL_law_1433 ?_
  refine lv_if_eq (tgt := 1439) hx hb dL_law_1434 (by decide) (fun _ => fin) (fun c6 => absurd (lg_0 (q3 c7)) c6)
