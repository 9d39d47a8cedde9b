/-! More of the model in lists and numbers -/
theorem k_np_split (ln : List (Nat × Nat)) : k_np ln = k_sum (fun i => k_wd (k_la ln i).1) ln.length + ln.length := by
  unfold k_np
  have : ∀ n, k_sum (fun i => k_wd (k_la ln i).1 + 1) n = k_sum (fun i => k_wd (k_la ln i).1) n + n := by
    intro n
    induction n with
    | zero => rfl
    | succ n ih => rw [k_sum_s, k_sum_s, ih]; omega
  exact this _
theorem k_na_mod {a : Nat} (h : a < 12) : (if a + 1 < 12 then a + 1 else 0) = (a + 1) % 12 := by
  split <;> omega
theorem k_has_pl {ln : List (Nat × Nat)} {v : Int32} (h : ln.length ≤ 40) : decide ((0 : Int32) ≤ v ∧ v ≤ k_pl ln.length) = k_has ln v := by
  unfold k_has
  refine decide_eq_decide.mpr (and_congr_right fun h0 => ?_)
  obtain ⟨j, hj, rfl⟩ := nI_of (x := v) (by rw [Int32.not_lt]; exact h0)
  by_cases e : ln.length = 0
  · rw [e, k_pl_0, nI_0, q_lt0 hj]
    refine ⟨fun z => ?_, False.elim⟩
    have h1 := Int32.le_iff_toInt_le.mp z
    rw [nI_toInt hj] at h1
    have h2 : (-1 : Int32).toInt = -1 := by decide
    omega
  · rw [k_pl_s (by omega), nI_leI hj (by omega), nI_ltI hj (by omega)]
    omega
theorem k_ex_00 {bx : k_Bx} {b o : Nat} (h : ¬ b = o) (h1 : (bx b).length = 0) (h2 : (bx o).length = 0) : k_ex bx b o = bx := by
  unfold k_ex k_e2
  rw [if_neg h, if_neg (by omega), if_neg (by omega), k_drop_0 h1, k_drop_0 h2]
theorem k_ex_10 {bx : k_Bx} {b o : Nat} (h : ¬ b = o) (h1 : 0 < (bx b).length) (h2 : (bx o).length = 0) : k_ex bx b o = k_put (k_drop bx b) o (k_x bx b) := by
  unfold k_ex k_e2
  rw [if_neg h, if_neg (by omega), if_pos h1, k_drop_0 (bx := k_drop bx b) (by rw [k_drop_n (fun z => h z.symm)]; exact h2)]
theorem k_ex_01 {bx : k_Bx} {b o : Nat} (h : ¬ b = o) (h1 : (bx b).length = 0) (h2 : 0 < (bx o).length) : k_ex bx b o = k_put (k_drop bx o) b (k_x bx o) := by
  unfold k_ex k_e2
  rw [if_neg h, if_pos h2, if_neg (by omega), k_drop_0 h1]
theorem k_ex_11 {bx : k_Bx} {b o : Nat} (h : ¬ b = o) (h1 : 0 < (bx b).length) (h2 : 0 < (bx o).length) : k_ex bx b o = k_put (k_put (k_drop (k_drop bx b) o) o (k_x bx b)) b (k_x (k_drop bx b) o) := by
  have e : k_x (k_drop bx b) o = k_x bx o := by unfold k_x; rw [k_drop_n (fun z => h z.symm)]
  rw [e]
  unfold k_ex k_e2
  rw [if_neg h, if_pos h2, if_pos h1]
theorem k_wy_iff {bx : k_Bx} {ln : List (Nat × Nat)} {sc : Nat → Int32} {z : Bool} (h : z = true ↔ ∀ b, b < 12 → (bx b).length + k_rc ln sc b ln.length ≤ 20) : z = decide (k_wy bx ln sc = 0) := by
  rw [Bool.eq_iff_iff, h, decide_eq_true_iff]
  exact ⟨k_wy_0, k_wy_inv⟩
