/-! To do the parts -/
/-- what goes on holding: the settings are in their ranges -/
def k_Sw (S : k_S) : Prop := k_Sok S ∧ (∃ m, m ≤ 120 ∧ S.2.2.2 0 = nI m) ∧ S.2.2.2 1 = nI (k_n1 S.2.2.2) ∧ k_n1 S.2.2.2 ≤ 9
theorem k_Sw_of {S T : k_S} (h : k_Sw S) (hT : k_Sok T) (e : ∀ i, i < 3 → T.2.2.2 i = S.2.2.2 i) : k_Sw T := by
  obtain ⟨-, h2, h3, h4⟩ := h
  have e1 : k_n1 T.2.2.2 = k_n1 S.2.2.2 := by unfold k_n1; rw [e 1 (by decide)]
  exact ⟨hT, by rw [e 0 (by decide)]; exact h2, by rw [e1, e 1 (by decide)]; exact h3, by rw [e1]; exact h4⟩
theorem k_Sw_40 {S : k_S} {c : Nat} (h : k_Sw S) (hw : k_wn S.1 S.2.2.1 S.2.2.2 c = 0) : S.2.2.1.length < 40 := k_wn_40 h.1.2.2.1 hw h.2.1
theorem k_Sw_set {S : k_S} {c : Nat} (h : k_Sw S) (hc : c < 12) (hw : k_wn S.1 S.2.2.1 S.2.2.2 c = 0) : k_Sw (k_set S c) :=
  k_Sw_of h (k_Sok_set h.1 hc (k_wn_inv hw).1 (k_Sw_40 h hw)) (fun i hi => k_set_sc hi)
theorem k_Sw_cor {S : k_S} {p : Nat} (h : k_Sw S) (hp : p < S.2.2.1.length) (hw : k_wc S.1 S.2.2.1 S.2.2.2 p = 0) : k_Sw (k_cor S p) := by
  obtain ⟨-, -, hl⟩ := k_wc_inv hw
  have hla := k_la_lt h.1.2.2 hp
  refine k_Sw_of h ⟨h.1.1, k_Bok_cut (k_Bok_put h.1.2.1 hl hla.1), k_Lok_rep h.1.2.2 hp hla.2⟩ (fun i hi => ?_)
  show upd (upd _ 8 _) 3 _ i = _
  rw [pk_un (by omega), pk_un (by omega)]
theorem k_rb_ok {bx : k_Bx} {ln : List (Nat × Nat)} {sc : Nat → Int32} (hb : k_Bok bx) (hl : k_Lok ln) (hw : k_wy bx ln sc = 0) (j : Nat) (hj : j ≤ ln.length) : k_Bok (k_rb bx ln sc j) := by
  induction j with
  | zero => exact hb
  | succ j ih => exact k_Bok_put (ih (by omega)) (k_rb_room hw hl (by omega)) (k_la_lt hl (by omega)).1
theorem k_Sw_ret {S : k_S} (h : k_Sw S) (hw : k_wy S.1 S.2.2.1 S.2.2.2 = 0) : k_Sw (k_ret S) := by
  refine k_Sw_of h ⟨h.1.1, k_rb_ok h.1.2.1 h.1.2.2 hw _ (Nat.le_refl _), k_Lok_nil⟩ (fun i hi => ?_)
  show upd (upd _ 9 _) 3 _ i = _
  rw [pk_un (by omega), pk_un (by omega)]
theorem k_Sw_rest {S : k_S} {n : Nat} (h : k_Sw S) : k_Sw (k_rest S n) := by
  have h1 := k_bs_ok (hd := (upd S.2.2.2 3 (-1)) 3) h.1.2.1 h.1.1 n
  refine k_Sw_of h ⟨h1.2, h1.1, h.1.2.2⟩ (fun i hi => ?_)
  show upd (upd _ 7 _) 6 _ i = _
  rw [pk_un (by omega), pk_un (by omega)]
  show upd S.2.2.2 3 (-1) i = _
  rw [pk_un (by omega)]
theorem k_Bok_ex {bx : k_Bx} {b o : Nat} (h : k_Bok bx) (hb : b < 12) (ho : o < 12) : k_Bok (k_ex bx b o) := by
  have hlb := (h b hb).1
  have hlo := (h o ho).1
  by_cases e : b = o
  · unfold k_ex; rw [if_pos e]; exact h
  · rcases Nat.eq_zero_or_pos (bx b).length with h1 | h1 <;> rcases Nat.eq_zero_or_pos (bx o).length with h2 | h2
    · rw [k_ex_00 e h1 h2]; exact h
    · rw [k_ex_01 e h1 h2]; exact k_Bok_put (k_Bok_drop h) (by rw [k_drop_n e]; omega) (k_x_lt h ho h2)
    · rw [k_ex_10 e h1 h2]; exact k_Bok_put (k_Bok_drop h) (by rw [k_drop_n (fun z => e z.symm)]; omega) (k_x_lt h hb h1)
    · rw [k_ex_11 e h1 h2]
      refine k_Bok_put (k_Bok_put (k_Bok_drop (k_Bok_drop h)) ?_ (k_x_lt h hb h1)) ?_ (k_x_lt (k_Bok_drop h) ho (by rw [k_drop_n (fun z => e z.symm)]; exact h2))
      · rw [k_drop_s, k_drop_n (fun z => e z.symm), List.length_dropLast]; omega
      · rw [k_put_n e, k_drop_n e, k_drop_s, List.length_dropLast]; omega
theorem k_Sw_xch {S : k_S} {b o : Nat} (h : k_Sw S) (hb : b < 12) (ho : o < 12) : k_Sw (k_xch S b o) := by
  refine k_Sw_of h ⟨h.1.1, k_Bok_ex h.1.2.1 hb ho, h.1.2.2⟩ (fun i hi => ?_)
  show upd _ 3 _ i = _
  rw [pk_un (by omega)]
