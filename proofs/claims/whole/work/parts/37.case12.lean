theorem k_dw_2i {tx : List Nat} {lo hi i : Nat} (h : k_dw tx lo hi i = 2) : 48 < k_sg tx i ∧ (48 ≤ k_sg tx (i + 1) ∧ k_sg tx (i + 1) ≤ 57) ∧ 10 * (k_sg tx i - 48) + k_sg tx (i + 1) - 48 ≤ hi := by
  unfold k_dw at h
  split at h
  · split at h
    · assumption
    · omega
  · omega
theorem k_nv_of2 {tx : List Nat} {lo hi i : Nat} (h : k_dw tx lo hi i = 2) : k_nv tx hi i = 10 * (k_sg tx i - 48) + k_sg tx (i + 1) - 48 := k_nv_2 (k_dw_2i h)
theorem k_nv_of1 {tx : List Nat} {lo hi i : Nat} (hp : 48 + lo ≤ k_sg tx i ∧ k_sg tx i ≤ 57) (h : k_dw tx lo hi i = 1) : k_nv tx hi i = k_sg tx i - 48 := by
  refine k_nv_1 (fun z => ?_)
  rw [k_dw_2 hp z] at h
  omega
