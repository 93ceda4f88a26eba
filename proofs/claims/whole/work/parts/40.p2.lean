theorem lt_w : ∀ k, k < 6 → (if nI k - nI k / (3 : Int32) * (3 : Int32) = 0 then (1 : Int32) else if nI k - nI k / (3 : Int32) * (3 : Int32) = (1 : Int32) then 3 else 7) = wtF (nI k).toNatClampNeg := by decide
theorem lt_ind (x : Int32) : ∀ (n k : Nat) (a b : Int32), k + n ≤ 6 → rf_letterOf_6 x n k a b = sp_checkLetter_6 x n k b a := by
  intro n
  induction n with
  | zero => intro k a b _; rfl
  | succ n ih =>
    intro k a b hk
    rw [rf_letterOf_6_s, sp_checkLetter_6_s, lt_w k (by omega)]
    exact ih _ _ _ (by omega)
theorem lt_eq (x : Int32) : rf_letterOf x = sp_checkLetter x := lt_ind x 6 0 0 x (by decide)
