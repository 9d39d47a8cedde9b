/-! THE MODEL'S STATE: one array of numbers, and what it says of a case -/
/-- a text that is collected -/
def k_Tok (tx : List Nat) : Prop := tx.length ≤ 60 ∧ ∀ x ∈ tx, 33 ≤ x ∧ x ≤ 126
def k_TR (tx : List Nat) (f : Nat → Int32) : Prop := ∀ i, i < tx.length → f i = nI (k_at tx i)
theorem k_at_le {l : List Nat} {i : Nat} {P : Nat → Prop} (h : ∀ x ∈ l, P x) (hi : i < l.length) : P (k_at l i) := by
  unfold k_at
  rw [List.getD_eq_getElem?_getD, List.getElem?_eq_getElem hi]
  exact h _ (List.getElem_mem hi)
theorem k_Tok_nil : k_Tok [] := ⟨by simp, fun x hx => by cases hx⟩
/-- the saved states, the oldest one first -/
def k_Sok (S : k_S) : Prop := S.2.1 < 12 ∧ k_Bok S.1 ∧ k_Lok S.2.2.1
/-- the newest one -/
def k_nw (sv : List k_S) : k_S := sv.getLastD (fun _ => [], 0, [], fun _ => 0)
theorem k_nw_at {sv : List k_S} (h : 0 < sv.length) : sv[sv.length - 1]? = some (k_nw sv) := by
  unfold k_nw
  rw [List.getLastD_eq_getLast?, List.getLast?_eq_getElem?]
  rw [List.getElem?_eq_getElem (by omega)]
  rfl
def k_sav (sv : List k_S) (S : k_S) : List k_S := (if sv.length = 6 then sv.drop 1 else sv) ++ [S]
theorem k_sav_6 {sv : List k_S} {S : k_S} (h : sv.length = 6) : (k_sav sv S).length = sv.length - 1 + 1 := by
  unfold k_sav
  rw [if_pos h, List.length_append, List.length_drop]
  rfl
theorem k_sav_n {sv : List k_S} {S : k_S} (h : ¬ sv.length = 6) : (k_sav sv S).length = sv.length + 1 := by
  unfold k_sav
  rw [if_neg h, List.length_append]
  rfl
