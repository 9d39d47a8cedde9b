/-! The bits of a share, as the class works them out: doubled until it is 1.0 at least -/
def k_scl (x : UInt64) : Nat → UInt64
  | 0 => x
  | i + 1 => FP.dmul (k_scl x i) 4611686018427387904
abbrev k_lt1 (x : UInt64) : Prop := Op.cmpValue (FP.dcmp x FP.dconst1) .g < 0
abbrev k_fra (x : UInt64) : UInt64 := FP.dmul (FP.dsub x FP.dconst1) 4841369599423283200
def k_nice (x : UInt64) (n : Nat) : Prop := (∀ i, i < n → k_lt1 (k_scl x i) ∧ vf_n64 (k_scl x (i + 1))) ∧ ¬ k_lt1 (k_scl x n) ∧ vf_n64 (FP.dsub (k_scl x n) FP.dconst1) ∧ vf_n64 (k_fra (k_scl x n)) ∧ ((1023 - Int64.ofNat n) <<< (52 : Int64)) + FP.d2l (k_fra (k_scl x n)) = x.toInt64 ∧ 0 < Op.cmpValue (FP.dcmp x FP.dconst0) .g
theorem k_nice_all : ∀ b : Fin 41, ∀ a : Fin 41, 0 < a.1 → a.1 ≤ b.1 → ∃ n : Fin 8, k_nice (k_shq a.1 b.1) n.1 := by unfold k_nice k_shq vf_n64; decide +kernel
theorem k_nice_1 : k_nice FP.dconst1 0 := by unfold k_nice vf_n64; decide +kernel
theorem k_nice_0 : ∀ b : Fin 41, 0 < b.1 → (k_shq 0 b.1).toInt64 = 0 ∧ ¬ 0 < Op.cmpValue (FP.dcmp (k_shq 0 b.1) FP.dconst0) .g := by unfold k_shq; decide +kernel
theorem k_i64s (i : Nat) : (1023 : Int64) - Int64.ofNat i - 1 = 1023 - Int64.ofNat (i + 1) := by
  rw [show Int64.ofNat (i + 1) = Int64.ofNat i + Int64.ofNat 1 from Int64.ofNat_add i 1, Int64.sub_sub]
  rfl
