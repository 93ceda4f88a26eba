theorem lt_eq (x : Int32) : rf_letterOf x = sp_checkLetter x := by
  unfold rf_letterOf sp_checkLetter
  have e0 : (if nI 0 - nI 0 / (3 : Int32) * (3 : Int32) = 0 then (1 : Int32) else if nI 0 - nI 0 / (3 : Int32) * (3 : Int32) = (1 : Int32) then 3 else 7) = wtF (nI 0).toNatClampNeg := by decide
  have e1 : (if nI 1 - nI 1 / (3 : Int32) * (3 : Int32) = 0 then (1 : Int32) else if nI 1 - nI 1 / (3 : Int32) * (3 : Int32) = (1 : Int32) then 3 else 7) = wtF (nI 1).toNatClampNeg := by decide
  have e2 : (if nI 2 - nI 2 / (3 : Int32) * (3 : Int32) = 0 then (1 : Int32) else if nI 2 - nI 2 / (3 : Int32) * (3 : Int32) = (1 : Int32) then 3 else 7) = wtF (nI 2).toNatClampNeg := by decide
  have e3 : (if nI 3 - nI 3 / (3 : Int32) * (3 : Int32) = 0 then (1 : Int32) else if nI 3 - nI 3 / (3 : Int32) * (3 : Int32) = (1 : Int32) then 3 else 7) = wtF (nI 3).toNatClampNeg := by decide
  have e4 : (if nI 4 - nI 4 / (3 : Int32) * (3 : Int32) = 0 then (1 : Int32) else if nI 4 - nI 4 / (3 : Int32) * (3 : Int32) = (1 : Int32) then 3 else 7) = wtF (nI 4).toNatClampNeg := by decide
  have e5 : (if nI 5 - nI 5 / (3 : Int32) * (3 : Int32) = 0 then (1 : Int32) else if nI 5 - nI 5 / (3 : Int32) * (3 : Int32) = (1 : Int32) then 3 else 7) = wtF (nI 5).toNatClampNeg := by decide
  simp only [rf_letterOf_6_s, rf_letterOf_6_0, sp_checkLetter_6_s, sp_checkLetter_6_0, Nat.zero_add, Nat.reduceAdd, e0, e1, e2, e3, e4, e5]
