/-! Objects as they come, with nothing in them -/
def k_i5 (_cI : ClassId) (a : Nat) (w : va_W) : Prop := w = [(a, .inr (4, [.null, .int 0]))]
def k_i2 (_cI : ClassId) (a : Nat) (w : va_W) : Prop := w = [(a, .inr (2, [.null, .null, .int 0]))]
def k_i0 (_cI : ClassId) (a : Nat) (w : va_W) : Prop := w = [(a, .inr (0, [.null, .null, .int 0]))]
/-- the boxes while they are filled: j of them full, i types in the next one -/
def k_bi (j i : Nat) : k_Bx := fun b => if b < j then List.replicate 6 b else if b = j then List.replicate i b else []
theorem k_bi_put (j i : Nat) : k_put (k_bi j i) j j = k_bi j (i + 1) := by
  funext b
  by_cases e : b = j
  · subst e
    rw [k_put_s]
    unfold k_bi
    rw [if_neg (by omega), if_pos rfl, if_neg (by omega), if_pos rfl, List.replicate_succ']
  · rw [k_put_n e]
    unfold k_bi
    rw [if_neg e, if_neg e]
theorem k_bi_6 (j : Nat) : k_bi j 6 = k_bi (j + 1) 0 := by
  funext b
  unfold k_bi
  by_cases e : b < j
  · rw [if_pos e, if_pos (by omega)]
  · rw [if_neg e]
    by_cases e2 : b = j
    · rw [if_pos e2, if_pos (by omega)]
    · rw [if_neg e2, if_neg (by omega)]
      split <;> rfl
theorem k_bi_len (j i : Nat) : (k_bi j i j).length = i := by
  unfold k_bi
  rw [if_neg (by omega), if_pos rfl, List.length_replicate]
theorem k_bi_00 : k_bi 0 0 = fun _ => [] := by
  funext b
  unfold k_bi
  rw [if_neg (by omega)]
  split <;> rfl
theorem k_bi_isB {cI : ClassId} {a q1 q2 : Nat} : k_isB cI a (k_bi 0 0) 0 [(a, .inr (0, [.ref q1, .ref q2, .int (nI 0)])), (q1, .inl (cI, 240, .inl (fun _ => 0))), (q2, .inl (cI, 12, .inl (fun _ => 0)))] := by
  rw [k_bi_00]
  exact ⟨by decide, fun b _ => ⟨by simp, fun x hx => by cases hx⟩, _, _, _, _, fun b _ => ⟨nI_0.symm, fun i hi => absurd hi (Nat.not_lt_zero i)⟩, rfl⟩
def k_i4 (_cI : ClassId) (a : Nat) (w : va_W) : Prop := w = [(a, .inr (3, [.null, .null, .null, .int 0, .int 0, .int 0, .int 0, .int 0, .int 0, .int 0, .int 0]))]
/-- the numbers of a new state -/
def k_sc0 : Nat → Int32
  | 0 => nI 60
  | 1 => nI 1
  | 2 => nI 1
  | 3 => -1
  | 10 => -1
  | 11 => -1
  | _ => nI 0
theorem k_sc0_A : ∀ i, i < 3 → upd (upd (upd (fun _ => 0) 0 (nI 60)) 1 (nI 1)) 2 (nI 1) i = k_sc0 i := by
  intro i hi
  obtain rfl | rfl | rfl : i = 0 ∨ i = 1 ∨ i = 2 := by omega
  all_goals rfl
