/-! THE CLASS'S TEXT: kinds of part over the same functions -/
theorem q_max2 {a b : Nat} (ha : a < 2 ^ 31) (hb : b < 2 ^ 31) : (if nI a < nI b then nI b else nI a) = nI (max a b) := by
  by_cases h : a < b
  · rw [if_pos ((nI_ltI ha hb).mpr h), Nat.max_eq_right (by omega)]
  · rw [if_neg (fun z => h ((nI_ltI ha hb).mp z)), Nat.max_eq_left (by omega)]
theorem q_sh0 (n : Nat) : nI n >>> (nI 0 &&& 31) = nI n := by
  rw [show nI 0 &&& 31 = 0 by decide]
  exact Int32.shiftRight_zero
theorem q_sneg {a b : Nat} (h : a < b) (hb : b < 2 ^ 31) : nI a - nI b < 0 := by
  rw [Int32.lt_iff_toInt_lt, Int32.toInt_sub, nI_toInt (by omega), nI_toInt hb]
  have : (0 : Int32).toInt = 0 := by decide
  rw [this, Int.bmod_eq_of_le (by omega) (by omega)]
  omega
theorem q_nlm1 {a : Nat} (h : a < 2 ^ 31) : ¬ nI a ≤ -1 := by
  rw [Int32.le_iff_toInt_le, nI_toInt h]
  have : (-1 : Int32).toInt = -1 := by decide
  omega
