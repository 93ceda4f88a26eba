/-! plans: sums and validity of a code's digits, the walk over all codes -/
def smP (w : Nat) (ld : Nat → Nat) : Nat → Nat → Nat → Nat
  | 0, _, _ => 0
  | t + 1, p, v => smP w ld t (p / w) v + (if p % w = v then ld t else 0)
def vlP (w : Nat) (la : Nat → Nat) : Nat → Nat → Bool
  | 0, _ => true
  | t + 1, p => vlP w la t (p / w) && decide (p % w ≤ la t)
def grP (w : Nat) (ld : Nat → Nat) (t p : Nat) : Nat := max (max (smP w ld t p 0) (smP w ld t p 1)) (max (smP w ld t p 2) (smP w ld t p 3))
theorem smP_s (w : Nat) (ld : Nat → Nat) (t p v : Nat) : smP w ld (t + 1) p v = smP w ld t (p / w) v + (if p % w = v then ld t else 0) := rfl
theorem vlP_s (w : Nat) (la : Nat → Nat) (t p : Nat) : vlP w la (t + 1) p = (vlP w la t (p / w) && decide (p % w ≤ la t)) := rfl
theorem dg_d {w p k : Nat} (h : k < w) : (p * w + k) / w = p := by
  rw [Nat.mul_comm, Nat.mul_add_div (by omega), Nat.div_eq_of_lt h]
  rfl
theorem dg_m {w p k : Nat} (h : k < w) : (p * w + k) % w = k := by
  rw [Nat.mul_comm, Nat.mul_add_mod, Nat.mod_eq_of_lt h]
theorem smP_p {w : Nat} {ld : Nat → Nat} {t p k v : Nat} (h : k < w) : smP w ld (t + 1) (p * w + k) v = smP w ld t p v + (if k = v then ld t else 0) := by rw [smP_s, dg_d h, dg_m h]
theorem vlP_p {w : Nat} {la : Nat → Nat} {t p k : Nat} (h : k < w) : vlP w la (t + 1) (p * w + k) = (vlP w la t p && decide (k ≤ la t)) := by rw [vlP_s, dg_d h, dg_m h]
theorem smP_le {w : Nat} {ld : Nat → Nat} (hl : ∀ i, ld i ≤ 255) (v : Nat) : ∀ t p, smP w ld t p v ≤ 255 * t := by
  intro t
  induction t with
  | zero => intro p; exact Nat.le_refl _
  | succ t ih =>
    intro p
    rw [smP_s]
    have h1 := ih (p / w)
    have h2 := hl t
    split <;> omega
theorem smP_hi {w : Nat} {ld : Nat → Nat} (hw : 0 < w) {v : Nat} (hv : w ≤ v) : ∀ t p, smP w ld t p v = 0 := by
  intro t
  induction t with
  | zero => intro p; rfl
  | succ t ih =>
    intro p
    rw [smP_s, ih, if_neg (by have := Nat.mod_lt p hw; omega)]
theorem grP_le {w : Nat} {ld : Nat → Nat} (hl : ∀ i, ld i ≤ 255) (t p : Nat) : grP w ld t p ≤ 255 * t := by
  have h0 := smP_le (w := w) hl 0 t p
  have h1 := smP_le (w := w) hl 1 t p
  have h2 := smP_le (w := w) hl 2 t p
  have h3 := smP_le (w := w) hl 3 t p
  unfold grP
  omega
theorem grP_s {w : Nat} {ld : Nat → Nat} (t p : Nat) : grP w ld t (p / w) ≤ grP w ld (t + 1) p := by
  unfold grP
  simp only [smP_s]
  omega
theorem pr_d {w : Nat} (r c : Nat) : c / w / w ^ r = c / w ^ (r + 1) := by rw [Nat.div_div_eq_div_mul, Nat.pow_succ, Nat.mul_comm]
theorem vlP_pre {w : Nat} {la : Nat → Nat} : ∀ r t c, vlP w la (t + r) c = true → vlP w la t (c / w ^ r) = true := by
  intro r
  induction r with
  | zero => intro t c h; rw [Nat.pow_zero, Nat.div_one]; exact h
  | succ r ih =>
    intro t c h
    rw [← pr_d]
    refine ih t (c / w) ?_
    rw [show t + (r + 1) = (t + r) + 1 by omega, vlP_s, Bool.and_eq_true] at h
    exact h.1
theorem grP_pre {w : Nat} {ld : Nat → Nat} : ∀ r t c, grP w ld t (c / w ^ r) ≤ grP w ld (t + r) c := by
  intro r
  induction r with
  | zero => intro t c; rw [Nat.pow_zero, Nat.div_one]; exact Nat.le_refl _
  | succ r ih =>
    intro t c
    rw [← pr_d]
    exact Nat.le_trans (ih t (c / w)) (grP_s (t + r) c)
theorem vlP_0 {w : Nat} {la : Nat → Nat} : ∀ t, vlP w la t 0 = true := by
  intro t
  induction t with
  | zero => rfl
  | succ t ih => rw [vlP_s, Nat.zero_div, ih, Nat.zero_mod]; simp
theorem grP_p {w : Nat} {ld : Nat → Nat} {t p k : Nat} (h : k < w) (hw : w ≤ 4) : grP w ld (t + 1) (p * w + k) = max (grP w ld t p) (smP w ld (t + 1) (p * w + k) k) := by
  unfold grP
  simp only [smP_p h]
  rcases (show k = 0 ∨ k = 1 ∨ k = 2 ∨ k = 3 by omega) with rfl | rfl | rfl | rfl <;> simp <;> omega
/-- one code -/
def sfP (w n : Nat) (f : Nat → Int32) (c : Nat) : Nat → Int32 := fun i => if i < n then nI (c / w ^ (n - 1 - i) % w) else f i
def stP (w n : Nat) (ld la : Nat → Nat) (s : Int32 × (Nat → Int32)) (c : Nat) : Int32 × (Nat → Int32) := if vlP w la n c = true ∧ nI (grP w ld n c) < s.1 then (nI (grP w ld n c), sfP w n s.2 c) else s
def lpP (w n : Nat) (ld la : Nat → Nat) : Nat → Nat → Int32 × (Nat → Int32) → Int32 × (Nat → Int32)
  | 0, _, s => s
  | N + 1, c, s => lpP w n ld la N (c + 1) (stP w n ld la s c)
theorem lpP_s (w n : Nat) (ld la : Nat → Nat) (N c : Nat) (s : Int32 × (Nat → Int32)) : lpP w n ld la (N + 1) c s = lpP w n ld la N (c + 1) (stP w n ld la s c) := rfl
theorem lpP_add (w n : Nat) (ld la : Nat → Nat) : ∀ (a b c : Nat) (s : Int32 × (Nat → Int32)), lpP w n ld la (a + b) c s = lpP w n ld la b (c + a) (lpP w n ld la a c s) := by
  intro a
  induction a with
  | zero => intro b c s; rw [Nat.zero_add]; rfl
  | succ a ih =>
    intro b c s
    rw [show a + 1 + b = (a + b) + 1 by omega, lpP_s, lpP_s, ih, show c + 1 + a = c + (a + 1) by omega]
theorem lpP_id (w n : Nat) (ld la : Nat → Nat) (s : Int32 × (Nat → Int32)) : ∀ (N c : Nat), (∀ d, c ≤ d → d < c + N → ¬ (vlP w la n d = true ∧ nI (grP w ld n d) < s.1)) → lpP w n ld la N c s = s := by
  intro N
  induction N with
  | zero => intro c _; rfl
  | succ N ih =>
    intro c h
    rw [lpP_s]
    have e : stP w n ld la s c = s := if_neg (h c (Nat.le_refl _) (by omega))
    rw [e]
    exact ih (c + 1) (fun d h1 h2 => h d (by omega) (by omega))
theorem dv_r {w r p d : Nat} (hw : 0 < w) (h1 : p * w ^ r ≤ d) (h2 : d < p * w ^ r + w ^ r) : d / w ^ r = p := by
  have hp : 0 < w ^ r := Nat.pow_pos hw
  refine Nat.div_eq_of_lt_le h1 ?_
  rw [Nat.succ_mul]
  exact h2
