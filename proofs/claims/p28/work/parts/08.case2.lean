/-! THE LINE: places with a type and a letter each -/
def k_la (ln : List (Nat × Nat)) (i : Nat) : Nat × Nat := ln.getD i (0, 0)
def k_Lok (ln : List (Nat × Nat)) : Prop := ln.length ≤ 40 ∧ ∀ q ∈ ln, q.1 < 12 ∧ q.2 < 12
def k_LR (ln : List (Nat × Nat)) (f1 f2 : Nat → Int32) : Prop := ∀ i, i < ln.length → f1 i = nI (k_la ln i).1 ∧ f2 i = nI (k_la ln i).2
theorem k_la_lt {ln : List (Nat × Nat)} (h : k_Lok ln) {i : Nat} (hi : i < ln.length) : (k_la ln i).1 < 12 ∧ (k_la ln i).2 < 12 := by
  unfold k_la
  rw [List.getD_eq_getElem?_getD, List.getElem?_eq_getElem hi]
  exact h.2 _ (List.getElem_mem hi)
theorem k_la_app {l m : List (Nat × Nat)} {i : Nat} (h : i < l.length) : k_la (l ++ m) i = k_la l i := by
  unfold k_la
  rw [List.getD_eq_getElem?_getD, List.getD_eq_getElem?_getD, List.getElem?_append_left h]
theorem k_la_new {l : List (Nat × Nat)} {x : Nat × Nat} : k_la (l ++ [x]) l.length = x := by
  unfold k_la
  rw [List.getD_eq_getElem?_getD, List.getElem?_append_right (Nat.le_refl _), Nat.sub_self]
  rfl
theorem k_la_set {l : List (Nat × Nat)} {x : Nat × Nat} {i p : Nat} (hp : p < l.length) : k_la (l.set p x) i = if i = p then x else k_la l i := by
  unfold k_la
  rw [List.getD_eq_getElem?_getD, List.getD_eq_getElem?_getD, List.getElem?_set]
  by_cases e : p = i
  · subst e; rw [if_pos rfl, if_pos hp, if_pos rfl]; rfl
  · rw [if_neg e, if_neg (fun z => e z.symm)]
/-- the type of a place is another one -/
def k_rep (ln : List (Nat × Nat)) (p x : Nat) : List (Nat × Nat) := ln.set p (x, (k_la ln p).2)
theorem k_rep_len {ln : List (Nat × Nat)} {p x : Nat} : (k_rep ln p x).length = ln.length := by simp [k_rep]
theorem k_Lok_app {ln : List (Nat × Nat)} {x c : Nat} (h : k_Lok ln) (hl : ln.length < 40) (hx : x < 12) (hc : c < 12) : k_Lok (ln ++ [(x, c)]) := by
  refine ⟨by simp; omega, fun q hq => ?_⟩
  rcases List.mem_append.mp hq with hq | hq
  · exact h.2 q hq
  · rw [List.mem_singleton.mp hq]; exact ⟨hx, hc⟩
theorem k_Lok_rep {ln : List (Nat × Nat)} {p x : Nat} (h : k_Lok ln) (hp : p < ln.length) (hx : x < 12) : k_Lok (k_rep ln p x) := by
  refine ⟨by rw [k_rep_len]; exact h.1, fun q hq => ?_⟩
  rcases List.mem_or_eq_of_mem_set hq with hq | hq
  · exact h.2 q hq
  · rw [hq]; exact ⟨hx, (k_la_lt h hp).2⟩
theorem k_Lok_nil : k_Lok [] := ⟨by simp, fun q hq => by cases hq⟩
theorem k_LR_app {ln : List (Nat × Nat)} {x c : Nat} {f1 f2 : Nat → Int32} (h : k_LR ln f1 f2) : k_LR (ln ++ [(x, c)]) (upd f1 ln.length (nI x)) (upd f2 ln.length (nI c)) := by
  intro i hi
  rw [List.length_append, List.length_singleton] at hi
  by_cases e : i = ln.length
  · subst e; rw [pk_us, pk_us, k_la_new]; exact ⟨rfl, rfl⟩
  · rw [pk_un e, pk_un e, k_la_app (by omega)]; exact h i (by omega)
theorem k_LR_rep {ln : List (Nat × Nat)} {p x : Nat} {f1 f2 : Nat → Int32} (h : k_LR ln f1 f2) (hp : p < ln.length) : k_LR (k_rep ln p x) (upd f1 p (nI x)) f2 := by
  intro i hi
  rw [k_rep_len] at hi
  unfold k_rep
  rw [k_la_set hp]
  by_cases e : i = p
  · subst e; rw [pk_us, if_pos rfl]; exact ⟨rfl, (h i hi).2⟩
  · rw [pk_un e, if_neg e]; exact h i hi
theorem k_LR_cong {ln : List (Nat × Nat)} {f1 f2 g1 g2 : Nat → Int32} (hok : k_Lok ln) (h : k_LR ln g1 g2) (h1 : ∀ q, q < 72 → f1 q = g1 q) (h2 : ∀ q, q < 72 → f2 q = g2 q) : k_LR ln f1 f2 := fun i hi => by
  have := hok.1
  exact ⟨(h1 i (by omega)).trans (h i hi).1, (h2 i (by omega)).trans (h i hi).2⟩
def k_isL (cI : ClassId) (a : Nat) (ln : List (Nat × Nat)) (w : va_W) : Prop := k_Lok ln ∧ ∃ (hs hl : Nat) (f1 f2 : Nat → Int32), k_LR ln f1 f2 ∧ w = [(a, .inr (2, [.ref hs, .ref hl, .int (nI ln.length)])), (hs, .inl (cI, 72, .inl f1)), (hl, .inl (cI, 72, .inl f2))]
theorem k_isL_recv {cI : ClassId} {a : Nat} {ln : List (Nat × Nat)} {w : va_W} (h : k_isL cI a ln w) : ∃ fs : List Value, w[0]? = some (a, .inr (2, fs)) := by
  obtain ⟨-, hs, hl, f1, f2, -, rfl⟩ := h
  exact ⟨_, rfl⟩
def k_has (ln : List (Nat × Nat)) (p : Int32) : Bool := decide (0 ≤ p ∧ p < nI ln.length)
theorem k_has_t {ln : List (Nat × Nat)} {p : Int32} (hl : ln.length ≤ 40) (h : k_has ln p = true) : ∃ j, j < ln.length ∧ p = nI j := by
  obtain ⟨h1, h2⟩ := of_decide_eq_true h
  obtain ⟨j, hj, rfl⟩ := nI_of (x := p) (by rw [Int32.not_lt]; exact h1)
  exact ⟨j, (nI_ltI hj (by omega)).mp h2, rfl⟩
theorem k_has_n {ln : List (Nat × Nat)} {j : Nat} (hl : ln.length ≤ 40) (hj : j < 2 ^ 31) : k_has ln (nI j) = decide (j < ln.length) := by
  unfold k_has
  by_cases h : j < ln.length
  · rw [decide_eq_true h, decide_eq_true ⟨nI_pos' hj, (nI_ltI hj (by omega)).mpr h⟩]
  · rw [decide_eq_false h, decide_eq_false (fun z => h ((nI_ltI hj (by omega)).mp z.2))]
def k_wd (x : Nat) : Nat := 2 + x % 3
/-- errors of the line -/
def k_er (ln : List (Nat × Nat)) : Nat := k_cnt (fun i => decide (¬ (k_la ln i).1 = (k_la ln i).2)) ln.length
def k_cl (ln : List (Nat × Nat)) (x : Nat) : Nat := k_cnt (fun i => (k_la ln i).1 == x) ln.length
/-- its types with a gap behind each -/
def k_np (ln : List (Nat × Nat)) : Nat := k_sum (fun i => k_wd (k_la ln i).1 + 1) ln.length
theorem k_er_le (ln : List (Nat × Nat)) : k_er ln ≤ ln.length := k_cnt_le _ _
theorem k_cl_le (ln : List (Nat × Nat)) (x : Nat) : k_cl ln x ≤ ln.length := k_cnt_le _ _
theorem k_wd_le (x : Nat) : 2 ≤ k_wd x ∧ k_wd x ≤ 4 := by unfold k_wd; omega
theorem k_np_n (ln : List (Nat × Nat)) (n : Nat) : 3 * n ≤ k_sum (fun i => k_wd (k_la ln i).1 + 1) n ∧ k_sum (fun i => k_wd (k_la ln i).1 + 1) n ≤ 5 * n := by
  induction n with
  | zero => exact ⟨Nat.le_refl _, Nat.le_refl _⟩
  | succ n ih => have := k_wd_le (k_la ln n).1; simp only [k_sum]; omega
theorem k_np_le (ln : List (Nat × Nat)) : 3 * ln.length ≤ k_np ln ∧ k_np ln ≤ 5 * ln.length := k_np_n ln _
