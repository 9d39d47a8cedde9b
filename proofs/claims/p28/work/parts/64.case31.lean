/-! WHAT THE LAW'S OWN METHODS HOLD -/
theorem lg_self (x : Int64) : lg_cmp x x = 0 := by
  unfold lg_cmp
  simp
/-- an array of twelve numbers that the law counts in -/
def k_isAr (cI : ClassId) (a _z : Nat) (w : va_W) : Prop := ∃ g : Nat → Int32, w = [(a, .inl (cI, 12, .inl g))]
def k_cell (xs : Nat → Int32) (LL k : Nat) : Int32 := if k < LL then xs k else nI (7919 * (k + 3) * (k + 11))
theorem k_tp_bb {bx : k_Bx} {ln : List (Nat × Nat)} {sc : Nat → Int32} {p z : Nat} (hz : z < 2) (h : sc 2 = nI z) : k_tp bx ln sc p z = nI (k_bb ln sc p) := by
  obtain rfl | rfl : z = 0 ∨ z = 1 := by omega
  · rw [k_bb_0 (by rw [h, nI_eq (by decide) (by decide)]; decide)]
    rfl
  · rw [k_bb_1 h]
    rfl
