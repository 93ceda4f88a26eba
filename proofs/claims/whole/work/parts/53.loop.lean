theorem lw_gt {L i : Nat} (hL : L ≤ 3584) (hi : i ≤ 3584) : (Int32.ofNat L - 7 < nI i) ↔ L < i + 7 := by
  have h1 := pk_sub_toInt (a := L) (b := 7) (by omega) (by omega)
  have h2 : (nI i).toInt = (i : Int) := nI_toInt (by omega)
  have e : Int32.ofNat L - 7 = nI L - nI 7 := rfl
  rw [e, Int32.lt_iff_toInt_lt, h1, h2]
  omega
set_option maxHeartbeats 4000000 in
set_option maxRecDepth 100000 in
theorem law_loop {p : Program} {l : Launch} (hl9 : l.stackTraces = false) {e : Env} {s : State} {m : MethodId} {below : List Frame} {meth : Method} {c : Code} {dC : Nat → ClassId} {dI : Nat → Nat → Nat} {cI cZ cL : ClassId} {b L : Nat} {xs : Nat → Int32} (hL : L ≤ 3584) (C0 : lw_At p s m meth c b L xs) {zk : Nat → Nat} (hz : zz zk (lA s) s s.heap) (hK : va_K (dC, dI) vwCl (TY cI cZ cL) s) {a : Nat → Nat} {o : Nat} {d : Nat → Nat} : ∀ (n j : Nat), 7 * j ≤ L → L < 7 * (j + n) → ∀ (σ ρ : St) (g : Nat → Int64) (H : Heap) (locs : List Loc) (ls : Array Slot), Rel σ ρ → va_P (dC, dI) vwCl (LW cI cZ cL a o d σ g ρ) H → va_D (lA s) (LW cI cZ cL a o d σ g ρ) → va_S (lA s) s.heap H locs → lv_has ls 7 [(0, .ref b), (1, .ref (a 0)), (2, .ref (d 0)), (3, .ref o), (4, .int (nI (7 * j)))] → W p l e room_1 s m #[Value.ref b] below meth c H locs (48 + 8 * j) (1642 + 48 * j) (lw_Z below #[Value.ref b] s) (F0 m 23 ls []) := by
  obtain ⟨hx, hb, hr, hml, hown, hts, hX, hbl, hlocks, hgv⟩ := id C0
  have hbA : ¬ lA s b := Nat.not_le.mpr hbl
  intro n
  induction n with
  | zero => intro j h1 h2; omega
  | succ n ih =>
    intro j hj hn σ ρ g H locs ls hR hP hD hS hl
    refine lv_iload hx hb dL_law_23 (lv_at hl 4 rfl) ?_
    refine lv_aload_n hx hb dL_law_25 rfl (lv_at hl 0 rfl) ?_
    refine va_slen hx hb hX hbl hbA hS dL_law_26 ?_
    refine lv_bipush (v := 7) hx hb dL_law_27 (by decide) ?_
    refine lv_isub hx hb dL_law_29 ?_
    refine lv_icmp_gt (tgt := 1448) hx hb dL_law_30 (by decide) (fun c1 => ?_) (fun c1 => ?_)
    · refine lv_iconst (v := 1) hx hb dL_law_1448 (by decide) ?_
      refine va_forget (fun q hq => hS.2.2 q hq) ?_
      refine W.widen (k := 601024) (n := 7293034) (by omega) (by omega) ?_
      exact lw_ret hx hb hr hlocks dL_law_1449
    · have hi : 7 * j + 7 ≤ L := by
        rcases Nat.lt_or_ge L (7 * j + 7) with q | q
        · exact absurd ((lw_gt hL (by omega)).mpr q) c1
        · exact q
      refine lv_aload_n hx hb dL_law_33 rfl (lv_at hl 0 rfl) ?_
      refine lv_iload hx hb dL_law_34 (lv_at hl 4 rfl) ?_
      refine va_sld hx hb hX hbl hbA hS (vp_in_nI (by omega) (by omega)) dL_law_36 ?_
      refine lv_bipush (v := 31) hx hb dL_law_37 (by decide) ?_
      refine lv_iand hx hb dL_law_39 ?_
      refine lv_topi (fun v ev => ?_)
      have hv : vp_in v 32 := by rw [ev]; exact pk_andIn _ 5 (m := 31) (by decide) (by decide)
      obtain ⟨q, hq, eq⟩ := vp_in_of hv (by decide)
      clear ev hv
      have hcs : 48 + 8 * j + 8 ≤ room_1.cells ∧ 1642 + 48 * j + 48 ≤ room_1.slots := ⟨by show 48 + 8 * j + 8 ≤ 601024; omega, by show 1642 + 48 * j + 48 ≤ 7293034; omega⟩
      have kk : ∀ (σ' ρ' : St) (g' : Nat → Int64) (H' : Heap) (locs' : List Loc) (ls' : Array Slot), Rel σ' ρ' → va_P (dC, dI) vwCl (LW cI cZ cL a o d σ' g' ρ') H' → va_D (lA s) (LW cI cZ cL a o d σ' g' ρ') → va_S (lA s) s.heap H' locs' → lv_has ls' 7 [(0, .ref b), (1, .ref (a 0)), (2, .ref (d 0)), (3, .ref o), (4, .int (nI (7 * j)))] → W p l e room_1 s m #[Value.ref b] below meth c H' locs' (48 + 8 * j + 8) (1642 + 48 * j + 48) (lw_Z below #[Value.ref b] s) (F0 m 1442 ls' []) := by
        intro σ' ρ' g' H' locs' ls' k1 k2 k3 k4 k5
        have e : nI (7 * j) + 7 = nI (7 * (j + 1)) := nI_add (7 * j) 7
        refine lv_iinc (v := nI (7 * (j + 1))) (lv' := [(4, .int (nI (7 * (j + 1)))), (0, .ref b), (1, .ref (a 0)), (2, .ref (d 0)), (3, .ref o)]) hx hb dL_law_1442 k5 (k := 4) rfl (by rw [← e]; rfl) (by decide) rfl (fun ls hl => ?_)
        refine lv_goto (tgt := 23) hx hb dL_law_1445 (by decide) ?_
        exact ih (j + 1) (by omega) (by omega) _ _ _ _ _ _ k1 k2 k3 k4 (lv_sub hl [1, 2, 3, 4, 0] rfl)
      rcases (show q = 0 ∨ q = 1 ∨ q = 2 ∨ q = 3 ∨ q = 4 ∨ q = 5 ∨ q = 6 ∨ q = 7 ∨ q = 8 ∨ q = 9 ∨ q = 10 ∨ q = 11 ∨ q = 12 ∨ q = 13 ∨ q = 14 ∨ q = 15 ∨ q = 16 ∨ q = 17 ∨ q = 18 ∨ 19 ≤ q by omega) with rfl | rfl | rfl | rfl | rfl | rfl | rfl | rfl | rfl | rfl | rfl | rfl | rfl | rfl | rfl | rfl | rfl | rfl | rfl | hq19
      · refine lv_tableIn (tgt := 132) hx hb dL_law_40 (by rw [eq]; decide) (by rw [eq]; decide) (by rw [eq]; rfl) (by decide) ?_
        exact lc_day hl9 hL C0 hz hK hi hR hP hD hS hl hcs kk
      · refine lv_tableIn (tgt := 168) hx hb dL_law_40 (by rw [eq]; decide) (by rw [eq]; decide) (by rw [eq]; rfl) (by decide) ?_
        exact lc_age hl9 hL C0 hz hK hi hR hP hD hS hl hcs kk
      · refine lv_tableIn (tgt := 216) hx hb dL_law_40 (by rw [eq]; decide) (by rw [eq]; decide) (by rw [eq]; rfl) (by decide) ?_
        exact lc_test hl9 hL C0 hz hK hi hR hP hD hS hl hcs kk
      · refine lv_tableIn (tgt := 288) hx hb dL_law_40 (by rw [eq]; decide) (by rw [eq]; decide) (by rw [eq]; rfl) (by decide) ?_
        exact lc_bounds hl9 hL C0 hz hK hi hR hP hD hS hl hcs kk
      · refine lv_tableIn (tgt := 360) hx hb dL_law_40 (by rw [eq]; decide) (by rw [eq]; decide) (by rw [eq]; rfl) (by decide) ?_
        exact lc_thing hl9 hL C0 hz hK hi hR hP hD hS hl hcs kk
      · refine lv_tableIn (tgt := 478) hx hb dL_law_40 (by rw [eq]; decide) (by rw [eq]; decide) (by rw [eq]; rfl) (by decide) ?_
        exact lc_letter hl9 hL C0 hz hK hi hR hP hD hS hl hcs kk
      · refine lv_tableIn (tgt := 534) hx hb dL_law_40 (by rw [eq]; decide) (by rw [eq]; decide) (by rw [eq]; rfl) (by decide) ?_
        exact lc_use hl9 hL C0 hz hK hi hR hP hD hS hl hcs kk
      · refine lv_tableIn (tgt := 570) hx hb dL_law_40 (by rw [eq]; decide) (by rw [eq]; decide) (by rw [eq]; rfl) (by decide) ?_
        by_cases hc : xs (nI (7 * j) + (2 : Int32)).toNatClampNeg = 0
        · exact lc_wash_0 hl9 hL C0 hz hK hi hc hR hP hD hS hl hcs kk
        · exact lc_wash_1 hl9 hL C0 hz hK hi hc hR hP hD hS hl hcs kk
      · refine lv_tableIn (tgt := 654) hx hb dL_law_40 (by rw [eq]; decide) (by rw [eq]; decide) (by rw [eq]; rfl) (by decide) ?_
        exact lc_result hl9 hL C0 hz hK hi hR hP hD hS hl hcs kk
      · refine lv_tableIn (tgt := 734) hx hb dL_law_40 (by rw [eq]; decide) (by rw [eq]; decide) (by rw [eq]; rfl) (by decide) ?_
        exact lc_load hl9 hL C0 hz hK hi hR hP hD hS hl hcs kk
      · refine lv_tableIn (tgt := 782) hx hb dL_law_40 (by rw [eq]; decide) (by rw [eq]; decide) (by rw [eq]; rfl) (by decide) ?_
        by_cases hc : xs (nI (7 * j) + (2 : Int32)).toNatClampNeg = 0
        · exact lc_recall_0 hl9 hL C0 hz hK hi hc hR hP hD hS hl hcs kk
        · exact lc_recall_1 hl9 hL C0 hz hK hi hc hR hP hD hS hl hcs kk
      · refine lv_tableIn (tgt := 866) hx hb dL_law_40 (by rw [eq]; decide) (by rw [eq]; decide) (by rw [eq]; rfl) (by decide) ?_
        exact lc_recalled hl9 hL C0 hz hK hi hR hP hD hS hl hcs kk
      · refine lv_tableIn (tgt := 934) hx hb dL_law_40 (by rw [eq]; decide) (by rw [eq]; decide) (by rw [eq]; rfl) (by decide) ?_
        exact lc_barred hl9 hL C0 hz hK hi hR hP hD hS hl hcs kk
      · refine lv_tableIn (tgt := 990) hx hb dL_law_40 (by rw [eq]; decide) (by rw [eq]; decide) (by rw [eq]; rfl) (by decide) ?_
        exact lc_ends hl9 hL C0 hz hK hi hR hP hD hS hl hcs kk
      · refine lv_tableIn (tgt := 1046) hx hb dL_law_40 (by rw [eq]; decide) (by rw [eq]; decide) (by rw [eq]; rfl) (by decide) ?_
        exact lc_soon hl9 hL C0 hz hK hi hR hP hD hS hl hcs kk
      · refine lv_tableIn (tgt := 1126) hx hb dL_law_40 (by rw [eq]; decide) (by rw [eq]; decide) (by rw [eq]; rfl) (by decide) ?_
        exact lc_thingAt hl9 hL C0 hz hK hi hR hP hD hS hl hcs kk
      · refine lv_tableIn (tgt := 1194) hx hb dL_law_40 (by rw [eq]; decide) (by rw [eq]; decide) (by rw [eq]; rfl) (by decide) ?_
        exact lc_life hl9 hL C0 hz hK hi hR hP hD hS hl hcs kk
      · refine lv_tableIn (tgt := 1262) hx hb dL_law_40 (by rw [eq]; decide) (by rw [eq]; decide) (by rw [eq]; rfl) (by decide) ?_
        exact lc_plan hl9 hL C0 hz hK hi hR hP hD hS hl hcs kk
      · refine lv_tableIn (tgt := 1386) hx hb dL_law_40 (by rw [eq]; decide) (by rw [eq]; decide) (by rw [eq]; rfl) (by decide) ?_
        exact lc_week hl9 hL C0 hz hK hi hR hP hD hS hl hcs kk
      · refine lv_tableOut (tgt := 1442) hx hb dL_law_40 (Or.inr (by rw [eq, nI_toInt (by omega)]; omega)) (by decide) ?_
        refine W.widen (k := 48 + 8 * j + 8) (n := 1642 + 48 * j + 48) (by omega) (by omega) ?_
        exact kk _ _ _ _ _ _ hR hP hD hS hl
