/-! my own rows: the class's state as a function of places, and small rows for the walks -/
abbrev St : Type := Nat → Nat → Int32
/-- the state with number k of place q set to v -/
def su (σ : St) (q k : Nat) (v : Int32) : St := va_up σ q (upd (σ q) k v)
theorem su_same (σ : St) (q k : Nat) (v : Int32) : su σ q k v q k = v := by simp [su, va_up, upd]
theorem su_ne (σ : St) {q k q' k' : Nat} (v : Int32) (h : ¬ (q' = q ∧ k' = k)) : su σ q k v q' k' = σ q' k' := by
  unfold su va_up upd
  by_cases h1 : q' = q
  · subst h1
    rw [if_pos rfl]
    exact if_neg (fun h2 => h ⟨rfl, h2⟩)
  · rw [if_neg h1]
theorem su_nq (σ : St) {q k q' : Nat} (v : Int32) (h : q' ≠ q) : su σ q k v q' = σ q' := by
  unfold su va_up
  exact if_neg h
theorem ht_3 : (3 : Int32) = nI 3 := by decide
theorem lpE {B : Int32} {N k : Nat} (h : B = nI N) (hk : k + 0 = N) (hN : N < 2 ^ 31) : B ≤ nI k := by
  subst h
  exact nI_le (by omega) (by omega)
theorem lpB {B : Int32} {N k n : Nat} (h : B = nI N) (hk : k + (n + 1) = N) (hN : N < 2 ^ 31) : ¬ B ≤ nI k := by
  subst h
  exact nI_ge (by omega) hN
theorem vp_in_le {x : Int32} {m n : Nat} (h : vp_in x m) (hmn : m ≤ n) : vp_in x n := by
  obtain ⟨a, b⟩ := vp_in_iff.mp h
  exact vp_in_iff.mpr ⟨a, by omega⟩
theorem in_m3 {a b : Int32} {n N : Nat} (ha : vp_in a n) (hb : vp_in b 3) (hn : n ≤ 1000) (hN : n * 3 = N) : vp_in (a * (3 : Int32) + b) N := by
  obtain ⟨i, hi, rfl⟩ := vp_in_of ha (by omega)
  obtain ⟨j, hj, rfl⟩ := vp_in_of hb (by omega)
  rw [ht_3, pk_mul, nI_add]
  exact vp_in_nI (by omega) (by omega)
theorem fr_all {A0 : Nat → Prop} {ws : va_W} {H0 H : Heap} {locs : List Loc} (hD : va_D A0 ws) (hS : va_S A0 H0 H locs) (hA : ∀ q, H0.size ≤ q → A0 q) : ∀ q, va_A ws H.size q → A0 q := by
  intro q h
  rcases h with ⟨k, e, hk⟩ | h
  · exact hD.2 k (q, e) hk
  · exact hA q (Nat.le_trans hS.1 h)
theorem W_ofH {p : Program} {l : Launch} {e : Env} {R : Room} {s : State} {m : MethodId} {args : Array Value} {below : List Frame} {meth : Method} {c : Code} {H : Heap} {locs : List Loc} {cells slots : Nat} {Q : State → Prop} {g : JFrame} (h1 : H = s.heap) (h2 : locs = []) (k : W p l e R s m args below meth c H locs cells slots Q g) : W p l e R s m args below meth c s.heap [] cells slots Q g := by
  subst h1
  subst h2
  exact k
theorem ps_0 {s : State} {H : Heap} {As : List Value} : PreS s H (va_Pc As (fun _ => True)) As := ⟨fun _ _ _ _ q => q, fun _ _ _ => ⟨rfl, trivial⟩⟩
def okKnown (x n : Int32) : Bool := !(decide (x < 0)) && decide (x < n)
def okRange (x lo hi : Int32) : Bool := !(decide (x < lo)) && decide (x ≤ hi)
def okState (b : Int32) : Bool := !(decide (b = 0))
theorem okK_in {x B : Int32} {n : Nat} (h : okKnown x B = true) (hB : B = nI n) (hn : n < 2 ^ 31) : vp_in x n := by
  subst hB
  simp only [okKnown, Bool.and_eq_true, Bool.not_eq_true', decide_eq_false_iff_not, decide_eq_true_eq] at h
  rcases pk_ix x hn with h1 | h1 | ⟨j, hj, rfl⟩
  · exact absurd h1 h.1
  · exact absurd h.2 (Int32.not_lt.mpr h1)
  · exact vp_in_nI hj hn

