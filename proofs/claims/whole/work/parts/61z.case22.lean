/-! THE LAW, case by case -/
theorem k_upd_comm {sc : Nat → Int32} {i : Nat} {v u : Int32} (h : i ≠ 3) : upd (upd sc i v) 3 u = upd (upd sc 3 u) i v := by
  funext j
  by_cases e : j = 3
  · subst e; rw [pk_us, pk_un (fun z => h z.symm), pk_us]
  · rw [pk_un e]
    by_cases e2 : j = i
    · subst e2; rw [pk_us, pk_us]
    · rw [pk_un e2, pk_un e2, pk_un e]
theorem k_Sn_eq {hsn : Int32} {fd fd2 : Nat → Int32} {N1 N2 : k_S} (h : k_Sn hsn fd N1 N2) (e : fd2 6 = fd 6) : k_Sn hsn fd2 N1 N2 := by
  unfold k_Sn at h ⊢
  rw [e]; exact h
