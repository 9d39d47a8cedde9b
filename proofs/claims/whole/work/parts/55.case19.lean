/-! The class's calls from outside -/
def q_Vs (Z : (Nat → Prop) → State → Heap → Prop) (tL tH : Nat) : Prop := ∀ (A : Nat → Prop) (U : State) (H : Heap), Z A U H → (va_Z "SortCases" "LOWEST_VALUES" "[I" (.ref tL) A U H ∧ va_T .int tL 3 (fun j => .int (k_lo j)) A U H) ∧ (va_Z "SortCases" "HIGHEST_VALUES" "[I" (.ref tH) A U H ∧ va_T .int tH 3 (fun j => .int (k_hi j)) A U H)
theorem q_vc {p : Program} {s : State} {m : MethodId} {args : Array Value} {c : Code} {cc : ByteArray} {nL : Nat} {Ts : List Cond} {own : String} {D : va_G} {tys : List (ClassId × FieldType)} {Z : (Nat → Prop) → State → Heap → Prop} {A : Nat → Prop} {tL tH : Nat} (hV : q_Vs Z tL tH) (C : q_C p s m args c cc nL Ts own D tys Z A) : (va_Z "SortCases" "LOWEST_VALUES" "[I" (.ref tL) A s s.heap ∧ va_T .int tL 3 (fun j => .int (k_lo j)) A s s.heap) ∧ (va_Z "SortCases" "HIGHEST_VALUES" "[I" (.ref tH) A s s.heap ∧ va_T .int tH 3 (fun j => .int (k_hi j)) A s s.heap) := hV _ _ _ C.2.2.2.2.2.2.2.1
theorem k_ss {c : Nat} (h : c < 12) : (0 : Int32) ≤ nI c ∧ nI c < 12 := ⟨nI_pos' (by omega), by rw [show (12 : Int32) = nI 12 by decide, nI_ltI (by omega) (by decide)]; exact h⟩
theorem k_n00 {v : Int32} (h : ¬ v < 0) : nI 0 ≤ v := by rw [nI_0]; exact Int32.not_lt.mp h
theorem k_le_of {v : Int32} {a b : Nat} (h : ¬ nI a ≤ v) (e : a = b + 1) (ha : a < 2 ^ 31) : v ≤ nI b := by
  subst e
  have h1 := Int32.not_le.mp h
  rw [Int32.lt_iff_toInt_lt, nI_toInt ha] at h1
  rw [Int32.le_iff_toInt_le, nI_toInt (by omega)]
  omega
theorem k_le_of2 {v : Int32} {a b : Nat} (h : v < nI a) (e : a = b + 1) (ha : a < 2 ^ 31) : v ≤ nI b := k_le_of (Int32.not_le.mpr h) e ha
