/-! What is told of a case; what would be -/
theorem k_wn_inv {bx : k_Bx} {ln : List (Nat × Nat)} {sc : Nat → Int32} {c : Nat} (h : k_wn bx ln sc c = 0) : 0 < (bx c).length ∧ nI (k_np ln + k_wd (k_x bx c)) ≤ sc 0 := by
  unfold k_wn at h
  split at h
  · omega
  · split at h
    · rename_i h1 h2; exact ⟨by omega, h2⟩
    · omega
/-- a line that takes one more letter is not full -/
theorem k_wn_40 {bx : k_Bx} {ln : List (Nat × Nat)} {sc : Nat → Int32} {c : Nat} (hl : ln.length ≤ 40) (h : k_wn bx ln sc c = 0) (hm : ∃ m, m ≤ 120 ∧ sc 0 = nI m) : ln.length < 40 := by
  obtain ⟨m, hm1, hm2⟩ := hm
  have h1 := (k_wn_inv h).2
  have h2 := (k_np_le ln)
  have h3 := (k_wd_le (k_x bx c))
  rw [hm2, nI_leI (by omega) (by omega)] at h1
  omega
def k_tb (bx : k_Bx) (at0 : Nat) (sc : Nat → Int32) (b : Nat) : Nat → Int32
  | 0 => nI (bx b).length
  | 1 => nI (k_wi bx b)
  | 2 => k_top bx b 0
  | 3 => nI (k_wd b)
  | 4 => q_b (decide (sc 3 = nI b))
  | 5 => q_b (decide (at0 = b))
  | _ => nI (k_st bx b)
def k_tp (bx : k_Bx) (ln : List (Nat × Nat)) (sc : Nat → Int32) (p : Nat) : Nat → Int32
  | 0 => nI (k_la ln p).1
  | 1 => nI (k_la ln p).2
  | 2 => q_b (decide (¬ (k_la ln p).1 = (k_la ln p).2))
  | _ => nI (k_wc bx ln sc p)
def k_tc (bx : k_Bx) (at0 : Nat) (ln : List (Nat × Nat)) (sc : Nat → Int32) (m : Nat) : Nat → Int32
  | 0 => nI ln.length
  | 1 => nI (k_np ln - 1)
  | 2 => nI (k_er ln)
  | 3 => nI (k_ty bx)
  | 4 => nI (k_wr bx)
  | 5 => nI (k_wr bx)
  | 6 => q_b (decide (k_wr bx = 0))
  | 7 => sc 3
  | 8 => nI at0
  | 9 => sc 5
  | 10 => sc 6
  | 11 => sc 7
  | 12 => sc 8
  | 13 => sc 9
  | 14 => sc 0
  | 15 => sc 1
  | 16 => sc 2
  | _ => nI m
/-- the hash goes on over n numbers -/
def k_hf (g : Nat → Int32) (h : Int64) : Nat → Int64
  | 0 => h
  | n + 1 => 31 * k_hf g h n + (g n).toInt64
theorem k_nb_far {bx : k_Bx} {a c : Nat} : k_nb bx a (nI c) c = bx c ∨ 2 ^ 31 ≤ c ∨ 2 ^ 31 ≤ a ∨ 2 ^ 31 ≤ k_x bx a := by
  by_cases h1 : 2 ^ 31 ≤ c
  · exact Or.inr (Or.inl h1)
  by_cases h2 : 2 ^ 31 ≤ a
  · exact Or.inr (Or.inr (Or.inl h2))
  by_cases h3 : 2 ^ 31 ≤ k_x bx a
  · exact Or.inr (Or.inr (Or.inr h3))
  refine Or.inl ?_
  unfold k_nb
  split
  · rename_i hm
    obtain ⟨-, -, h4, h5, -⟩ := k_mv_iff.mp hm
    rw [k_put_n (fun e => h5 (by rw [← e])), k_drop_n (fun e => h4 (by rw [← e]))]
  · rfl
theorem k_bs_far {bx : k_Bx} {a c : Nat} (hok : k_Bok bx) (ha : a < 12) (hc : c < 12) (t : Nat) : (k_bs bx a (nI c) t).1 c = bx c := by
  induction t with
  | zero => rfl
  | succ t ih =>
    have h := k_bs_ok (hd := nI c) hok ha t
    show k_nb _ _ _ c = _
    rcases k_nb_far (bx := (k_bs bx a (nI c) t).1) (a := (k_bs bx a (nI c) t).2) (c := c) with e | e | e | e
    · rw [e, ih]
    · omega
    · have := h.2; omega
    · have h3 : k_x (k_bs bx a (nI c) t).1 (k_bs bx a (nI c) t).2 < 12 ∨ (k_bs bx a (nI c) t).1 (k_bs bx a (nI c) t).2 = [] := by
        by_cases e2 : 0 < ((k_bs bx a (nI c) t).1 (k_bs bx a (nI c) t).2).length
        · exact Or.inl (k_x_lt h.1 h.2 e2)
        · exact Or.inr (List.eq_nil_of_length_eq_zero (by omega))
      rcases h3 with h3 | h3
      · omega
      · have : k_x (k_bs bx a (nI c) t).1 (k_bs bx a (nI c) t).2 = 0 := by unfold k_x; rw [h3]; rfl
        omega
theorem k_Sok_set {S : k_S} {c : Nat} (h : k_Sok S) (hc : c < 12) (h0 : 0 < (S.1 c).length) (hl : S.2.2.1.length < 40) : k_Sok (k_set S c) := by
  have h1 := k_bs_ok (hd := (upd (upd S.2.2.2 5 (S.2.2.2 5 + nI 1)) 3 (nI c)) 3) (k_Bok_drop (b := c) h.2.1) h.1 (k_n1 S.2.2.2)
  exact ⟨h1.2, h1.1, k_Lok_app h.2.2 hl (k_x_lt h.2.1 hc h0) hc⟩
theorem k_set_sc {S : k_S} {c j : Nat} (h : j < 3) : (k_set S c).2.2.2 j = S.2.2.2 j := by
  show k_psc _ _ _ _ j = _
  unfold k_psc
  rw [pk_un (by omega), pk_un (by omega)]
  show upd (upd S.2.2.2 5 (S.2.2.2 5 + nI 1)) 3 (nI c) j = _
  rw [pk_un (by omega), pk_un (by omega)]
theorem k_np_app {ln : List (Nat × Nat)} {x : Nat × Nat} : k_np (ln ++ [x]) = k_np ln + (k_wd x.1 + 1) := by
  unfold k_np
  rw [List.length_append, List.length_singleton, k_sum_s, k_la_new, k_sum_cong (g := fun i => k_wd (k_la ln i).1 + 1) (fun i hi => by rw [k_la_app hi])]
theorem k_er_app {ln : List (Nat × Nat)} {x : Nat × Nat} : k_er (ln ++ [x]) = k_er ln + if x.1 = x.2 then 0 else 1 := by
  unfold k_er
  rw [List.length_append, List.length_singleton]
  show k_cnt _ ln.length + (if decide (¬ (k_la (ln ++ [x]) ln.length).1 = (k_la (ln ++ [x]) ln.length).2) then 1 else 0) = _
  rw [k_la_new, k_cnt_cong (q := fun i => decide (¬ (k_la ln i).1 = (k_la ln i).2)) (fun i hi => by rw [k_la_app hi])]
  by_cases e : x.1 = x.2
  · simp [e]
  · simp [e]
def k_lo : Nat → Int32
  | 0 => nI 20
  | _ => nI 0
def k_hi : Nat → Int32
  | 0 => nI 120
  | 1 => nI 9
  | _ => nI 1
theorem k_ty_le {bx : k_Bx} (h : k_Bok bx) : k_ty bx ≤ 240 := by
  unfold k_ty
  have : ∀ n, n ≤ 12 → k_sum (fun b => (bx b).length) n ≤ 20 * n := by
    intro n
    induction n with
    | zero => intro _; exact Nat.le_refl _
    | succ n ih => intro hn; have := ih (by omega); have := (h n (by omega)).1; rw [k_sum_s]; omega
  exact this 12 (Nat.le_refl _)
theorem k_first_le (p : Nat → Bool) (n : Nat) : k_first p n ≤ n := by
  induction n with
  | zero => exact Nat.le_refl _
  | succ n ih =>
    simp only [k_first]
    split
    · omega
    · split <;> omega
