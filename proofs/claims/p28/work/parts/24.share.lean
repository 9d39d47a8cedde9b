/-! The share of right places, as a double -/
def k_shq (a b : Nat) : UInt64 := FP.ddiv (FP.i2d (nI a)) (FP.i2d (nI b))
theorem k_shq_nn0 : ∀ b : Fin 41, ∀ a : Fin 41, 0 < b.1 → a.1 ≤ b.1 → vf_n64 (k_shq a.1 b.1) := by unfold k_shq vf_n64; decide +kernel
theorem k_shq_nn {a b : Nat} (h0 : 0 < b) (h1 : a ≤ b) (h2 : b ≤ 40) : vf_n64 (FP.ddiv (FP.i2d (nI a)) (FP.i2d (nI b))) := k_shq_nn0 ⟨b, by omega⟩ ⟨a, by omega⟩ h0 h1
def k_sh (ln : List (Nat × Nat)) : UInt64 := if ln.length = 0 then FP.dconst1 else k_shq (ln.length - k_er ln) ln.length
theorem k_sh_0 {ln : List (Nat × Nat)} (h : ln.length = 0) : k_sh ln = FP.dconst1 := if_pos h
theorem k_sh_n {ln : List (Nat × Nat)} (h : ¬ ln.length = 0) : k_sh ln = FP.ddiv (FP.i2d (nI (ln.length - k_er ln))) (FP.i2d (nI ln.length)) := if_neg h

