/-! The whole text: part after part -/
theorem k_okp_ge {tx : List Nat} {a : Nat} (h : k_okp tx a = true) : a + 4 ≤ k_mx tx a := by
  have h1 := of_decide_eq_true h
  have h2 := k_kd_lt tx a
  have h3 : 4 ≤ k_sho (k_kd tx a) := by
    obtain e | e | e | e | e : k_kd tx a = 1 ∨ k_kd tx a = 2 ∨ k_kd tx a = 3 ∨ k_kd tx a = 4 ∨ k_kd tx a = 5 := by omega
    all_goals (rw [e]; decide)
  omega
theorem k_pw_end {tx w : List Nat} (hw : ∀ z ∈ w, 1 ≤ z) {a : Nat} (h : a ≤ tx.length) : a + k_pw tx w a ≤ tx.length := by
  induction w generalizing a with
  | nil => exact h
  | cons z zs ih =>
    by_cases e : k_sg tx a = z
    · rw [k_pw_1 e]
      have h1 := k_sg_pos (tx := tx) (i := a) (by rw [e]; exact hw z (List.mem_cons_self ..))
      have h2 := ih (fun y hy => hw y (List.mem_cons_of_mem _ hy)) (a := a + 1) (by omega)
      omega
    · rw [k_pw_0 e]; omega
theorem k_lw_end {tx : List Nat} {m i : Nat} (h : i ≤ tx.length) : i + k_lw tx m i ≤ tx.length := by
  induction m generalizing i with
  | zero => exact h
  | succ m ih =>
    by_cases e : 97 ≤ k_sg tx i ∧ k_sg tx i ≤ 108
    · rw [k_lw_1 e]
      have h1 := k_sg_pos (tx := tx) (i := i) (by omega)
      have h2 := ih (i := i + 1) (by omega)
      omega
    · rw [k_lw_0 e]; omega
theorem k_dw_end {tx : List Nat} {lo hi i : Nat} (h : i ≤ tx.length) : i + k_dw tx lo hi i ≤ tx.length := by
  unfold k_dw
  split
  · rename_i h1
    have h2 := k_sg_pos (tx := tx) (i := i) (by omega)
    split
    · rename_i h3
      have h4 := k_sg_pos (tx := tx) (i := i + 1) (by have := h3.2.1.1; omega)
      omega
    · omega
  · exact h
theorem k_mx_end {tx : List Nat} {a : Nat} (h : a ≤ tx.length) : k_mx tx a ≤ tx.length := by
  have h2 := k_kd_lt tx a
  unfold k_mx
  have hw : ∀ K, 1 ≤ K → K ≤ 5 → ∀ z ∈ k_wo K, 1 ≤ z := by
    intro K h1 h5
    obtain rfl | rfl | rfl | rfl | rfl : K = 1 ∨ K = 2 ∨ K = 3 ∨ K = 4 ∨ K = 5 := by omega
    all_goals decide
  have h3 := k_pw_end (hw (k_kd tx a) h2.1 h2.2) h
  unfold k_mf
  split
  · exact h3
  · rename_i h4
    have h5 := k_pw_le tx (k_wo (k_kd tx a)) a
    have h6 : a + (k_wo (k_kd tx a)).length ≤ tx.length := by omega
    obtain e | e | e | e | e : k_kd tx a = 1 ∨ k_kd tx a = 2 ∨ k_kd tx a = 3 ∨ k_kd tx a = 4 ∨ k_kd tx a = 5 := by omega
    all_goals rw [e] at h6 ⊢
    · exact k_lw_end h6
    · exact k_dw_end h6
    · exact h6
    · exact k_dw_end h6
    · exact k_lw_end h6
/-- where the parts begin that are complete -/
def k_plA (tx : List Nat) : Nat → Nat → List Nat → List Nat
  | 0, a, ps => k_ap tx ps a
  | n + 1, a, ps => if k_okp tx a = true ∧ k_mx tx a < tx.length ∧ k_sg tx (k_mx tx a) = 59 then k_plA tx n (k_mx tx a + 1) (k_ap tx ps a) else k_ap tx ps a
def k_rd (tx : List Nat) : Nat × Bool := k_fr tx 61 0
def k_rp (tx : List Nat) : List Nat := k_plA tx 61 0 []
theorem k_fr_go {tx : List Nat} {n a : Nat} (h1 : k_okp tx a = true) (h2 : k_mx tx a < tx.length) (h3 : k_sg tx (k_mx tx a) = 59) : k_fr tx (n + 1) a = k_fr tx n (k_mx tx a + 1) := by
  show (if k_okp tx a = true ∧ k_mx tx a < tx.length then (if k_sg tx (k_mx tx a) = 59 then k_fr tx n (k_mx tx a + 1) else (k_mx tx a, false)) else (k_mx tx a, k_okp tx a)) = _
  rw [if_pos ⟨h1, h2⟩, if_pos h3]
theorem k_fr_bad {tx : List Nat} {n a : Nat} (h1 : k_okp tx a = false) : k_fr tx (n + 1) a = (k_mx tx a, false) := by
  show (if k_okp tx a = true ∧ k_mx tx a < tx.length then (if k_sg tx (k_mx tx a) = 59 then k_fr tx n (k_mx tx a + 1) else (k_mx tx a, false)) else (k_mx tx a, k_okp tx a)) = _
  rw [if_neg (fun h => by rw [h1] at h; cases h.1), h1]
theorem k_fr_end {tx : List Nat} {n a : Nat} (h1 : k_okp tx a = true) (h2 : ¬ k_mx tx a < tx.length) : k_fr tx (n + 1) a = (k_mx tx a, true) := by
  show (if k_okp tx a = true ∧ k_mx tx a < tx.length then (if k_sg tx (k_mx tx a) = 59 then k_fr tx n (k_mx tx a + 1) else (k_mx tx a, false)) else (k_mx tx a, k_okp tx a)) = _
  rw [if_neg (fun h => h2 h.2), h1]
theorem k_fr_no {tx : List Nat} {n a : Nat} (h1 : k_okp tx a = true) (h2 : k_mx tx a < tx.length) (h3 : ¬ k_sg tx (k_mx tx a) = 59) : k_fr tx (n + 1) a = (k_mx tx a, false) := by
  show (if k_okp tx a = true ∧ k_mx tx a < tx.length then (if k_sg tx (k_mx tx a) = 59 then k_fr tx n (k_mx tx a + 1) else (k_mx tx a, false)) else (k_mx tx a, k_okp tx a)) = _
  rw [if_pos ⟨h1, h2⟩, if_neg h3]
theorem k_pl_go {tx ps : List Nat} {n a : Nat} (h1 : k_okp tx a = true) (h2 : k_mx tx a < tx.length) (h3 : k_sg tx (k_mx tx a) = 59) : k_plA tx (n + 1) a ps = k_plA tx n (k_mx tx a + 1) (k_ap tx ps a) := if_pos ⟨h1, h2, h3⟩
theorem k_pl_no {tx ps : List Nat} {n a : Nat} (h : ¬ (k_okp tx a = true ∧ k_mx tx a < tx.length ∧ k_sg tx (k_mx tx a) = 59)) : k_plA tx (n + 1) a ps = k_ap tx ps a := if_neg h
theorem k_fr_len {tx : List Nat} (n : Nat) {a : Nat} (ha : a ≤ tx.length) (h : (k_fr tx n a).2 = true) : (k_fr tx n a).1 = tx.length := by
  induction n generalizing a with
  | zero => cases h
  | succ n ih =>
    cases e : k_okp tx a with
    | false => rw [k_fr_bad e] at h; cases h
    | true =>
      by_cases e2 : k_mx tx a < tx.length
      · by_cases e3 : k_sg tx (k_mx tx a) = 59
        · rw [k_fr_go e e2 e3] at h ⊢
          exact ih (by omega) h
        · rw [k_fr_no e e2 e3] at h; cases h
      · rw [k_fr_end e e2]
        have := k_mx_end ha
        show k_mx tx a = _
        omega
theorem k_rd_len {tx : List Nat} (h : (k_rd tx).2 = true) : (k_rd tx).1 = tx.length := k_fr_len 61 (Nat.zero_le _) h
theorem k_fr_badk {tx : List Nat} {n a : Nat} (h1 : k_okp tx a = false) : k_fr tx (n + 1) a = (k_mx tx a, k_okp tx a) := by rw [k_fr_bad h1, h1]
theorem k_fr_endk {tx : List Nat} {n a : Nat} (h2 : ¬ k_mx tx a < tx.length) : k_fr tx (n + 1) a = (k_mx tx a, k_okp tx a) := by
  cases e : k_okp tx a with
  | false => rw [k_fr_bad e]
  | true => rw [k_fr_end e h2]
