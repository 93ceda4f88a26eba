theorem ak_of {args : Array Value} {s : State} {ty : FieldType} (h : (Cond.arrayClass ty).before args s = true) : ∃ cA : ClassId, ArrOfT s cA ty ∧ s.vm.findClass ("[" ++ ty.toString) = some cA := by
  obtain ⟨c, k, comp, h1, h2, h3⟩ := Cond.arrayClass_spec h
  exact ⟨c, fun n z => ⟨fun k h => (by cases h), k, h2, comp, h3⟩, h1⟩
theorem inL {ws : List Cond} {w0 : Cond} (h : ∀ w ∈ ws, w ∈ w0 :: bigW) (h0 : w0 ∈ bigW) : ∀ w ∈ ws, w ∈ lw_tbl := fun w hw => (List.mem_cons.mp (h w hw)).elim (fun e => e ▸ kL h0) kL
theorem sr_of {args : Array Value} {s : State} {k : Nat} {tx : String} (h1 : (Cond.stringRef "HoseTests" k tx).before args s = true) (h2 : (Cond.exactly (.string "HoseTests" k) "java/lang/String").before args s = true) : ∃ a : Nat, vk_R "HoseTests" k tx a s := by
  obtain ⟨a, c, cA, kA, q1, -⟩ := Cond.exactly_spec (args := args) (first := s) (o := none) (s := s) (idx := []) (t := .string "HoseTests" k) (cls := "java/lang/String") h2
  exact ⟨a, vk_R.of h1 q1⟩
theorem zw_st {b : Nat} {s : State} (hts : ∀ w ∈ lw_tbl, w.before #[Value.ref b] s = true) (hgv : (Jvm.Cond.and given_1 narrow_1).before #[Value.ref b] s = true) : zw s := by
  have hs := flat_of_before _ hgv
  refine ⟨fun E hE => ?_, fun x hx => ?_, fun q hq => ?_, fun E hE T hT hn => ?_⟩
  · simp only [exL, List.mem_cons, List.not_mem_nil, or_false] at hE
    rcases hE with rfl | rfl | rfl | rfl | rfl
    · exact va_Nw.of rfl (hts _ (List.mem_of_getElem? (i := 268) (by decide +kernel)))
    · exact va_Nw.of rfl (hts _ (List.mem_of_getElem? (i := 187) (by decide +kernel)))
    · exact va_Nw.of rfl (hts _ (List.mem_of_getElem? (i := 316) (by decide +kernel)))
    · exact va_Nw.of rfl (hts _ (List.mem_of_getElem? (i := 336) (by decide +kernel)))
    · exact va_Nw.of rfl (hts _ (List.mem_of_getElem? (i := 515) (by decide +kernel)))
  · simp only [dcL, List.mem_cons, List.not_mem_nil, or_false] at hx
    rcases hx with rfl | rfl | rfl
    · exact va_Nw.of rfl (hts _ (List.mem_of_getElem? (i := 189) (by decide +kernel)))
    · exact va_Nw.of rfl (hts _ (List.mem_of_getElem? (i := 191) (by decide +kernel)))
    · exact va_Nw.of rfl (hts _ (List.mem_of_getElem? (i := 193) (by decide +kernel)))
  · simp only [nsL, List.mem_cons, List.not_mem_nil, or_false] at hq
    rcases hq with rfl | rfl | rfl
    · exact va_Nw.of rfl (hts _ (List.mem_of_getElem? (i := 44) (by decide +kernel)))
    · exact va_Nw.of rfl (hts _ (List.mem_of_getElem? (i := 72) (by decide +kernel)))
    · exact va_Nw.of rfl (hts _ (List.mem_of_getElem? (i := 126) (by decide +kernel)))
  · simp only [exL, List.mem_cons, List.not_mem_nil, or_false] at hE hT
    rcases hE with rfl | rfl | rfl | rfl | rfl <;> rcases hT with rfl | rfl | rfl | rfl | rfl
    · exact absurd rfl hn
    · exact va_Nc.of (hs _ (by decide +kernel))
    · exact va_Nc.of (hs _ (by decide +kernel))
    · exact va_Nc.of (hs _ (by decide +kernel))
    · exact va_Nc.of (hs _ (by decide +kernel))
    · exact va_Nc.of (hs _ (by decide +kernel))
    · exact absurd rfl hn
    · exact va_Nc.of (hs _ (by decide +kernel))
    · exact va_Nc.of (hs _ (by decide +kernel))
    · exact va_Nc.of (hs _ (by decide +kernel))
    · exact va_Nc.of (hs _ (by decide +kernel))
    · exact va_Nc.of (hs _ (by decide +kernel))
    · exact absurd rfl hn
    · exact va_Nc.of (hs _ (by decide +kernel))
    · exact va_Nc.of (hs _ (by decide +kernel))
    · exact va_Nc.of (hs _ (by decide +kernel))
    · exact va_Nc.of (hs _ (by decide +kernel))
    · exact va_Nc.of (hs _ (by decide +kernel))
    · exact absurd rfl hn
    · exact va_Nc.of (hs _ (by decide +kernel))
    · exact va_Nc.of (hs _ (by decide +kernel))
    · exact va_Nc.of (hs _ (by decide +kernel))
    · exact va_Nc.of (hs _ (by decide +kernel))
    · exact va_Nc.of (hs _ (by decide +kernel))
    · exact absurd rfl hn
theorem zz_st {b : Nat} {s : State} (hts : ∀ w ∈ lw_tbl, w.before #[Value.ref b] s = true) (hgv : (Jvm.Cond.and given_1 narrow_1).before #[Value.ref b] s = true) : ∃ zk, zz zk (lA s) s s.heap := by
  have hs := flat_of_before _ hgv
  have hA : ∀ a : Nat, a < s.heap.size → ¬ lA s a := fun a h => Nat.not_le.mpr h
  obtain ⟨a0, r0⟩ := sr_of (tx := "an unknown number") (hts _ (List.mem_of_getElem? (i := 275) (by decide +kernel))) (hs (.exactly (.string "HoseTests" 180) "java/lang/String") (by decide +kernel))
  obtain ⟨a1, r1⟩ := sr_of (tx := "a number outside its range") (hts _ (List.mem_of_getElem? (i := 228) (by decide +kernel))) (hs (.exactly (.string "HoseTests" 184) "java/lang/String") (by decide +kernel))
  obtain ⟨a2, r2⟩ := sr_of (tx := "not in this state") (hts _ (List.mem_of_getElem? (i := 323) (by decide +kernel))) (hs (.exactly (.string "HoseTests" 189) "java/lang/String") (by decide +kernel))
  obtain ⟨a3, r3⟩ := sr_of (tx := "no room for one more thing") (hts _ (List.mem_of_getElem? (i := 343) (by decide +kernel))) (hs (.exactly (.string "HoseTests" 84) "java/lang/String") (by decide +kernel))
  obtain ⟨a4, r4⟩ := sr_of (tx := "no such what") (hts _ (List.mem_of_getElem? (i := 500) (by decide +kernel))) (hs (.exactly (.string "HoseTests" 153) "java/lang/String") (by decide +kernel))
  obtain ⟨a5, r5⟩ := sr_of (tx := "no thing of this kind was scrapped") (hts _ (List.mem_of_getElem? (i := 522) (by decide +kernel))) (hs (.exactly (.string "HoseTests" 161) "java/lang/String") (by decide +kernel))
  have hel : ∀ j : Nat, j < 6 → (Term.elem (.static "HoseTests" "DIGIT_WEIGHTS" "[I") (.int (Int32.ofNat j))).eval #[Value.ref b] s none [] s = some (wtV j) := by
    intro j hj
    match j, hj with
    | 0, _ => exact va_eqt (hs (.eq (.elem (.static "HoseTests" "DIGIT_WEIGHTS" "[I") (.int 0)) (.int 1)) (by decide +kernel))
    | 1, _ => exact va_eqt (hs (.eq (.elem (.static "HoseTests" "DIGIT_WEIGHTS" "[I") (.int 1)) (.int 3)) (by decide +kernel))
    | 2, _ => exact va_eqt (hs (.eq (.elem (.static "HoseTests" "DIGIT_WEIGHTS" "[I") (.int 2)) (.int 7)) (by decide +kernel))
    | 3, _ => exact va_eqt (hs (.eq (.elem (.static "HoseTests" "DIGIT_WEIGHTS" "[I") (.int 3)) (.int 1)) (by decide +kernel))
    | 4, _ => exact va_eqt (hs (.eq (.elem (.static "HoseTests" "DIGIT_WEIGHTS" "[I") (.int 4)) (.int 3)) (by decide +kernel))
    | 5, _ => exact va_eqt (hs (.eq (.elem (.static "HoseTests" "DIGIT_WEIGHTS" "[I") (.int 5)) (.int 7)) (by decide +kernel))
    | j + 6, hj => omega
  obtain ⟨t9, ht9, hT9⟩ := va_Tof (tm := (.static "HoseTests" "DIGIT_WEIGHTS" "[I")) (ty := .int) (N := 6) (f := wtV) (A := lA s) (by decide) (hs (.arrayOf (.static "HoseTests" "DIGIT_WEIGHTS" "[I") .int) (by decide +kernel)) (va_eqt (hs (.eq (.length (.static "HoseTests" "DIGIT_WEIGHTS" "[I")) (.int 6)) (by decide +kernel))) hel hA
  refine ⟨fun i => if i = 0 then a0 else if i = 1 then a1 else if i = 2 then a2 else if i = 3 then a3 else if i = 4 then a4 else if i = 5 then a5 else t9, ?_, ?_, ?_, zw_st hts hgv, ?_, hT9⟩
  · exact vx_Zqof (hts _ (List.mem_of_getElem? (i := 212) (by decide +kernel))) (hts _ (List.mem_of_getElem? (i := 25) (by decide +kernel))) (hs (.isRef (.static "java/lang/Throwable" "UNASSIGNED_STACK" "[Ljava/lang/StackTraceElement;")) (by decide +kernel)) hA
  · exact vx_Zqof (hts _ (List.mem_of_getElem? (i := 214) (by decide +kernel))) (hts _ (List.mem_of_getElem? (i := 25) (by decide +kernel))) (hs (.isRef (.static "java/lang/Throwable" "SUPPRESSED_SENTINEL" "Ljava/util/List;")) (by decide +kernel)) hA
  · intro i q hq
    match i, hq with
    | 0, hq => cases hq; exact r0
    | 1, hq => cases hq; exact r1
    | 2, hq => cases hq; exact r2
    | 3, hq => cases hq; exact r3
    | 4, hq => cases hq; exact r4
    | 5, hq => cases hq; exact r5
    | i + 6, hq => simp [stL] at hq
  · exact va_Zof (hts _ (List.mem_of_getElem? (i := 310) (by decide +kernel))) (hts _ (List.mem_of_getElem? (i := 20) (by decide +kernel))) ht9 hA
theorem pc_in3 {s : State} {H : Heap} {dC : Nat → ClassId} {dI : Nat → Nat → Nat} {cI cZ : ClassId} {b : Nat} {e : va_E} {A : Nat → Prop} (hP : va_P (dC, dI) vwCl [(b, e)] H) (hK : va_K (dC, dI) vwCl [(cI, .int), (cZ, .boolean)] s) (hD : va_D A [(b, e)]) (hw : zw s) : PreS s H (va_Pc [.ref b] (fun U => U.heap.size = H.size ∧ va_P (dC, dI) vwCl [(b, e)] U.heap ∧ va_K (dC, dI) vwCl [(cI, .int), (cZ, .boolean)] U ∧ va_D (fun _ => True) [(b, e)] ∧ zw U)) [.ref b] := by
  refine ⟨fun a U g mk h => ?_, fun U hU hW => ⟨rfl, by rw [hU], by rw [hU]; exact hP, va_K.moved hW.alike hK, hD.weaken (fun _ _ _ _ => trivial), hw.warm hW⟩⟩
  obtain ⟨q0, q1, qP, qK, qD, qw⟩ := h
  exact ⟨q0, q1, qP, va_K.moved (u := U) (U := U.calling g mk a) (Vm.Alike.refl U.vm) qK, qD, qw.same rfl⟩
set_option maxHeartbeats 4000000 in
set_option maxRecDepth 100000 in
theorem whole_start {p : Program} {e : Env} {s : State} {m : MethodId} {below : List Frame} {meth : Method} {c : Code} (l : Launch) (hl9 : l.stackTraces = false) {b L : Nat} {xs : Nat → Int32} (hL : L ≤ 3584) (C0 : lw_At p s m meth c b L xs) : W p l e room_1 s m #[Value.ref b] below meth c s.heap [] 0 0 (lw_Z below #[Value.ref b] s) (entryFrame m ([Value.ref b] : List Value).toArray 7) := by
  obtain ⟨hx, hb, hr, hml, hown, hts, hX, hbl, hlocks, hgv⟩ := id C0
  have hown : s.vm.findClass RL = some m.cls := hown
  have hA : ∀ q : Nat, s.heap.size ≤ q → lA s q := fun _ h => h
  obtain ⟨zk, hz⟩ := zz_st hts hgv
  have hzw := zw_st hts hgv
  obtain ⟨c0, i0, hKn0⟩ := u_known (C := RX0) (T := TX0) (N := 5) (n := 5) hts (inL (iwX0 _) k_19) (hts _ (kL k_43))
  obtain ⟨c1, i1, hKn1⟩ := u_known (C := RX1) (T := TX1) (N := 7) (n := 7) hts (inL (iwX1 _) k_19) (hts _ (kL k_125))
  obtain ⟨c2, i2, hKn2⟩ := u_known (C := RX2) (T := TX2) (N := 12) (n := 12) hts (inL (iwX2 _) k_19) (hts _ (kL k_71))
  obtain ⟨c3, i3, hKn3⟩ := u_known (C := RX3) (T := TX3) (N := 6) (n := 6) hts (inL (iwX3 _) k_19) (hts _ (kL k_35))
  obtain ⟨c4, i4, hKn4⟩ := u_known (C := RX4) (T := TX4) (N := 23) (n := 23) hts (inL (iwX4 _) k_19) (hts _ (kL k_566))
  obtain ⟨dC, dI, hKc⟩ : ∃ (dC : Nat → ClassId) (dI : Nat → Nat → Nat), ∀ (k : Nat) (q : vw_C), vwCl[k]? = some q → u_Kn s q.1 q.2.1 q.2.2 (dC k) (dI k) := by
    refine ⟨fun k => if k = 0 then c0 else if k = 1 then c1 else if k = 2 then c2 else if k = 3 then c3 else c4, fun k => if k = 0 then i0 else if k = 1 then i1 else if k = 2 then i2 else if k = 3 then i3 else i4, ?_⟩
    intro k q hq
    match k, hq with
    | 0, hq => cases hq; exact hKn0
    | 1, hq => cases hq; exact hKn1
    | 2, hq => cases hq; exact hKn2
    | 3, hq => cases hq; exact hKn3
    | 4, hq => cases hq; exact hKn4
    | k + 5, hq => simp [vwCl] at hq
  obtain ⟨cI, hAI, hNI⟩ := ak_of (hts _ (kL k_69))
  obtain ⟨cZ, hAZ, hNZ⟩ := ak_of (hts _ (kL k_123))
  obtain ⟨cL, hAL, hNL⟩ := ak_of (hts _ (kL k_772))
  have hK : va_K (dC, dI) vwCl [(cI, .int), (cZ, .boolean)] s := ⟨hKc, fun k q h => by
    match k, h with
    | 0, h => cases h; exact ⟨hAI, hNI⟩
    | 1, h => cases h; exact ⟨hAZ, hNZ⟩
    | k + 2, h => simp at h⟩
  have hK3 : va_K (dC, dI) vwCl (TY cI cZ cL) s := ⟨hKc, fun k q h => by
    match k, h with
    | 0, h => cases h; exact ⟨hAI, hNI⟩
    | 1, h => cases h; exact ⟨hAZ, hNZ⟩
    | 2, h => cases h; exact ⟨hAL, hNL⟩
    | k + 3, h => simp at h⟩
  have hS : va_S (lA s) s.heap s.heap [] := va_S.rf
  have hP : va_P (dC, dI) vwCl [] s.heap := fun k q h => by simp at h
  have hD : va_D (lA s) [] := ⟨fun i j p q h => by simp at h, fun k q h => by simp at h⟩
  have hl := lv_entry ([.ref b]) (n := 7) (Nat.le_of_ble_eq_true rfl)
  rw [lg_entry_eq]
  generalize (lg_sl ([.ref b]) ++ List.replicate (7 - (lg_sl ([.ref b])).length) Slot.unset).toArray = ls at hl ⊢
  have hl : lv_has ls 7 [(0, .ref b)] := hl
  refine va_new (ci := 3) (fs := [.null, .null, .null, .null, .null, .int 0]) (C := RX3) (T := TX3) (N := 6) hx hb hts (inL (iwX3 _) k_19) tyX3 tyX3_ok hown (hts _ (kL k_34)) (hts _ (kL k_35)) (hts _ (kL k_20)) hK hP hD hS hA rfl (by decide) (Nat.le_of_ble_eq_true rfl) (Nat.le_of_ble_eq_true rfl) dL_law_0 (fun q0 H hP hD hS => ?_)
  refine W.widen (k := 1) (n := 6) (by decide) (by decide) ?_
  refine lv_dup hx hb dL_law_3 rfl ?_
  have hP : va_P (dC, dI) vwCl [(q0, .inr (3, [.null, .null, .null, .null, .null, .int 0]))] H := hP
  have hD : va_D (lA s) [(q0, .inr (3, [.null, .null, .null, .null, .null, .int 0]))] := hD
  have hPc := hP.sub (ws' := [(q0, .inr (3, [.null, .null, .null, .null, .null, .int 0]))]) [0] rfl
  have hDc := hD.sub (ws' := [(q0, .inr (3, [.null, .null, .null, .null, .null, .int 0]))]) [0] (by decide) rfl
  have hFc := va_free (wc := [(q0, .inr (3, [.null, .null, .null, .null, .null, .int 0]))]) hD hS hA [0] rfl
  refine va_callv (va_runI (As := []) (rest := [.ref q0]) ⟨hx, hb, hml, hown, hts⟩ (m_X3_init l dC dI cI cZ q0 H.size) (cwI 0 hts (gIL k_38) rfl rfl rfl (hts _ (kL k_20)) (hts _ (kL k_36)) (hts _ (kL k_37)) rfl (by decide +kernel) ⟨Nat.le_of_ble_eq_true rfl, Nat.le_of_ble_eq_true rfl⟩) (pc_in3 hPc hK hDc hzw) rfl rfl hl.1 rfl (lv_room (Nat.le_of_ble_eq_true rfl)) dL_law_4 ⟨Nat.le_of_ble_eq_true rfl, Nat.le_of_ble_eq_true rfl⟩) hS (fun q _ h => hFc q h) hFc (fun a t H1 locs ht hvm hw hB hz1 hk1 hS => ?_)
  obtain ⟨hP1, hK1, hD1⟩ := hB
  rw [ht] at hP1
  obtain ⟨hPj, hDj⟩ := va_join (wr := []) (w1 := (cw cI cZ a z0)) hP hD [0] [] rfl rfl (by decide) (by decide) hk1 hFc hP1 hD1
  clear hPc hDc hFc hP1 hD1 hK1 hk1 hP hD
  generalize H1 = H at hPj hS ⊢
  subst hw
  refine W.widen (k := 27) (n := 853) (by decide) (by decide) ?_
  have hP : va_P (dC, dI) vwCl (cw cI cZ a z0) H := hPj
  have hD : va_D (lA s) (cw cI cZ a z0) := hDj
  clear hPj hDj
  refine lv_astore_n (lv' := [(1, .ref (a 0)), (0, .ref b)]) hx hb dL_law_7 rfl hl (by decide) rfl (fun ls hl => ?_)
  refine va_new (ci := 4) (fs := [.int 0, .int 0, .null, .null, .null, .null, .null, .int 0, .null, .null, .null, .null, .null, .null, .null, .null, .null, .null, .null, .null, .int 0, .null, .null]) (C := RX4) (T := TX4) (N := 23) hx hb hts (inL (iwX4 _) k_19) tyX4 tyX4_ok hown (hts _ (kL k_565)) (hts _ (kL k_566)) (hts _ (kL k_24)) hK hP hD hS hA rfl (by decide) (Nat.le_of_ble_eq_true rfl) (Nat.le_of_ble_eq_true rfl) dL_law_8 (fun q8 H hP hD hS => ?_)
  refine W.widen (k := 28) (n := 876) (by decide) (by decide) ?_
  refine lv_dup hx hb dL_law_11 rfl ?_
  have hP : va_P (dC, dI) vwCl (cw cI cZ a z0 ++ [(q8, .inr (4, [.int 0, .int 0, .null, .null, .null, .null, .null, .int 0, .null, .null, .null, .null, .null, .null, .null, .null, .null, .null, .null, .null, .int 0, .null, .null]))]) H := hP
  have hD : va_D (lA s) (cw cI cZ a z0 ++ [(q8, .inr (4, [.int 0, .int 0, .null, .null, .null, .null, .null, .int 0, .null, .null, .null, .null, .null, .null, .null, .null, .null, .null, .null, .null, .int 0, .null, .null]))]) := hD
  have hPc := hP.sub (ws' := [(q8, .inr (4, [.int 0, .int 0, .null, .null, .null, .null, .null, .int 0, .null, .null, .null, .null, .null, .null, .null, .null, .null, .null, .null, .null, .int 0, .null, .null]))]) [27] rfl
  have hDc := hD.sub (ws' := [(q8, .inr (4, [.int 0, .int 0, .null, .null, .null, .null, .null, .int 0, .null, .null, .null, .null, .null, .null, .null, .null, .null, .null, .null, .null, .int 0, .null, .null]))]) [27] (by decide) rfl
  have hFc := va_free (wc := [(q8, .inr (4, [.int 0, .int 0, .null, .null, .null, .null, .null, .int 0, .null, .null, .null, .null, .null, .null, .null, .null, .null, .null, .null, .null, .int 0, .null, .null]))]) hD hS hA [27] rfl
  refine va_callv (va_runI (As := []) (rest := [.ref q8]) ⟨hx, hb, hml, hown, hts⟩ (m_X4_init l dC dI cI cZ q8 H.size) (cwI 0 hts (gIL k_569) rfl rfl rfl (hts _ (kL k_24)) (hts _ (kL k_567)) (hts _ (kL k_568)) rfl (by decide +kernel) ⟨Nat.le_of_ble_eq_true rfl, Nat.le_of_ble_eq_true rfl⟩) (pc_init hPc hK hDc) rfl rfl hl.1 rfl (lv_room (Nat.le_of_ble_eq_true rfl)) dL_law_12 ⟨Nat.le_of_ble_eq_true rfl, Nat.le_of_ble_eq_true rfl⟩) hS (fun q _ h => hFc q h) hFc (fun d t H1 locs ht hvm hw hB hz1 hk1 hS => ?_)
  obtain ⟨hP1, hK1, hD1⟩ := hB
  rw [ht] at hP1
  obtain ⟨hPj, hDj⟩ := va_join (wr := (cw cI cZ a z0)) (w1 := (rw cI cZ d z0)) hP hD [27] [0, 1, 2, 3, 4, 5, 6, 7, 8, 9, 10, 11, 12, 13, 14, 15, 16, 17, 18, 19, 20, 21, 22, 23, 24, 25, 26] rfl rfl (by decide) (by decide) hk1 hFc hP1 hD1
  clear hPc hDc hFc hP1 hD1 hK1 hk1 hP hD
  generalize H1 = H at hPj hS ⊢
  subst hw
  refine W.widen (k := 47) (n := 1641) (by decide) (by decide) ?_
  have hP : va_P (dC, dI) vwCl (cw cI cZ a z0 ++ rw cI cZ d z0) H := hPj
  have hD : va_D (lA s) (cw cI cZ a z0 ++ rw cI cZ d z0) := hDj
  clear hPj hDj
  refine lv_astore_n (lv' := [(2, .ref (d 0)), (1, .ref (a 0)), (0, .ref b)]) hx hb dL_law_15 rfl hl (by decide) rfl (fun ls hl => ?_)
  refine lv_iconst (v := 1) hx hb dL_law_16 (by decide) ?_
  refine va_newa (atype := .long) (ty := .long) (N' := 1) (a0 := (1, .inr (.inl (fun _ => 0)))) hx hb (hts _ (kL k_772)) rfl hK hP hD hS hA (fun _ => rfl) (by decide) (by decide) (by decide) (Nat.le_of_ble_eq_true rfl) (Nat.le_of_ble_eq_true rfl) dL_law_17 (fun o cA H hK9 hP hD hS => ?_)
  have ecL : cA = cL := by
    have h2 : s.vm.findClass ("[" ++ FieldType.long.toString) = some cA := (hK9.2 2 _ rfl).2
    exact Option.some.inj (h2.symm.trans hNL)
  subst ecL
  have hP := hP.sub (ws' := LW cI cZ cA a o d z0 (fun _ => 0) z0) [0, 1, 2, 3, 4, 5, 6, 7, 8, 9, 10, 11, 12, 13, 14, 15, 16, 17, 18, 19, 20, 21, 22, 23, 24, 25, 26, 47, 27, 28, 29, 30, 31, 32, 33, 34, 35, 36, 37, 38, 39, 40, 41, 42, 43, 44, 45, 46] rfl
  have hD := hD.sub (ws' := LW cI cZ cA a o d z0 (fun _ => 0) z0) [0, 1, 2, 3, 4, 5, 6, 7, 8, 9, 10, 11, 12, 13, 14, 15, 16, 17, 18, 19, 20, 21, 22, 23, 24, 25, 26, 47, 27, 28, 29, 30, 31, 32, 33, 34, 35, 36, 37, 38, 39, 40, 41, 42, 43, 44, 45, 46] (by decide) rfl
  refine lv_astore_n (lv' := [(3, .ref o), (2, .ref (d 0)), (1, .ref (a 0)), (0, .ref b)]) hx hb dL_law_19 rfl hl (by decide) rfl (fun ls hl => ?_)
  refine lv_iconst (v := 0) hx hb dL_law_20 (by decide) ?_
  refine lv_istore (lv' := [(4, .int 0), (3, .ref o), (2, .ref (d 0)), (1, .ref (a 0)), (0, .ref b)]) hx hb dL_law_21 hl (by decide) rfl (fun ls hl => ?_)
  exact law_loop hl9 hL C0 hz hK3 (L / 7 + 1) 0 (by omega) (by omega) z0 z0 (fun _ => 0) _ _ ls rel_0 hP hD hS (lv_sub hl [4, 3, 2, 1, 0] rfl)
