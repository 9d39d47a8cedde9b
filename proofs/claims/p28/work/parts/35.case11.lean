/-! THE CLASS'S OWN OBJECT, its history's, its text -/
def k_isX (_cI : ClassId) (a aO aY aN : Nat) (hsn : Int32) (aT aK : Nat) (w : va_W) : Prop := w = [(a, .inr (5, [.ref aO, .ref aY, .ref aN, .int hsn, .ref aT, .ref aK]))]
theorem k_isX_recv {cI : ClassId} {a aO aY aN aT aK : Nat} {hsn : Int32} {w : va_W} (h : k_isX cI a aO aY aN hsn aT aK w) : ∃ fs : List Value, w[0]? = some (a, .inr (5, fs)) := by
  rw [show w = _ from h]
  exact ⟨_, rfl⟩
def k_isY (_cI : ClassId) (a aG : Nat) (nx sz : Nat) (w : va_W) : Prop := w = [(a, .inr (1, [.ref aG, .int (nI nx), .int (nI sz)]))]
def k_isT (cI : ClassId) (a : Nat) (tx : List Nat) (w : va_W) : Prop := k_Tok tx ∧ ∃ (hc : Nat) (f : Nat → Int32), k_TR tx f ∧ w = [(a, .inr (4, [.ref hc, .int (nI tx.length)])), (hc, .inl (cI, 60, .inl f))]
theorem k_wy_le (bx : k_Bx) (ln : List (Nat × Nat)) (sc : Nat → Int32) : k_wy bx ln sc ≤ 6 := by
  unfold k_wy; split <;> omega
theorem k_wy_6k {bx : k_Bx} {ln : List (Nat × Nat)} {sc : Nat → Int32} (h : ¬ k_wy bx ln sc = 0) : k_wy bx ln sc = 6 := by
  unfold k_wy at h ⊢
  split
  · rfl
  · rename_i e; rw [if_neg e] at h; exact absurd rfl h

