/-! THE CLASS'S TEXT: kinds of part over the same functions -/
theorem q_max2 {a b : Nat} (ha : a < 2 ^ 31) (hb : b < 2 ^ 31) : (if nI a < nI b then nI b else nI a) = nI (max a b) := by
  by_cases h : a < b
  · rw [if_pos ((nI_ltI ha hb).mpr h), Nat.max_eq_right (by omega)]
  · rw [if_neg (fun z => h ((nI_ltI ha hb).mp z)), Nat.max_eq_left (by omega)]
theorem q_sh0 (n : Nat) : nI n >>> (nI 0 &&& 31) = nI n := by
  rw [show nI 0 &&& 31 = 0 by decide]
  exact Int32.shiftRight_zero
theorem q_sneg {a b : Nat} (h : a < b) (hb : b < 2 ^ 31) : nI a - nI b < 0 := by
  rw [Int32.lt_iff_toInt_lt, Int32.toInt_sub, nI_toInt (by omega), nI_toInt hb]
  have : (0 : Int32).toInt = 0 := by decide
  rw [this, Int.bmod_eq_of_le (by omega) (by omega)]
  omega
theorem q_nlm1 {a : Nat} (h : a < 2 ^ 31) : ¬ nI a ≤ -1 := by
  rw [Int32.le_iff_toInt_le, nI_toInt h]
  have : (-1 : Int32).toInt = -1 := by decide
  omega
theorem k_sort_iff {c : Nat} (h : 33 ≤ c) (h2 : c ≤ 126) : q_b (decide (0 ≤ nI c - nI 97 ∧ nI c - nI 97 < 12)) = 0 ↔ ¬ (97 ≤ c ∧ c ≤ 108) := by
  rw [q_bd0, Int32.le_iff_toInt_le, Int32.lt_iff_toInt_lt, Int32.toInt_sub, nI_toInt (by omega), nI_toInt (by decide)]
  have h0 : (0 : Int32).toInt = 0 := by decide
  have h12 : (12 : Int32).toInt = 12 := by decide
  rw [h0, h12, Int.bmod_eq_of_le (by omega) (by omega)]
  omega
abbrev k_blk (tx : List Nat) (e : Nat) : Prop := k_sg tx e = 0 ∨ k_sg tx e = 59
theorem k_pw_stop {tx : List Nat} : ∀ {w : List Nat} {a j : Nat}, (∀ u, u < j → k_sg tx (a + u) = w.getD u 0) → j < w.length → ¬ k_sg tx (a + j) = w.getD j 0 → k_pw tx w a = j := by
  intro w
  induction w with
  | nil => intro a j _ h; exact absurd h (Nat.not_lt_zero _)
  | cons z zs ih =>
    intro a j h1 h2 h3
    cases j with
    | zero => exact k_pw_0 h3
    | succ j =>
      rw [k_pw_1 (show k_sg tx a = z from h1 0 (by omega)), ih (a := a + 1) (j := j) (fun u hu => ?_) (by simpa using h2) ?_]
      · omega
      · rw [show a + 1 + j = a + (j + 1) by omega]
        exact h3
      · have := h1 (u + 1) (by omega)
        rw [show a + 1 + u = a + (u + 1) by omega, this]
        rfl
theorem k_pw_all {tx : List Nat} : ∀ {w : List Nat} {a : Nat}, (∀ u, u < w.length → k_sg tx (a + u) = w.getD u 0) → k_pw tx w a = w.length := by
  intro w
  induction w with
  | nil => intro a _; rfl
  | cons z zs ih =>
    intro a h1
    rw [k_pw_1 (show k_sg tx a = z from h1 0 (by simp)), ih (a := a + 1) (fun u hu => ?_)]
    · rw [List.length_cons]; omega
    · have := h1 (u + 1) (by rw [List.length_cons]; omega)
      rw [show a + 1 + u = a + (u + 1) by omega, this]
      rfl
theorem k_mf_stop {tx : List Nat} {K a j : Nat} (h1 : ∀ u, u < j → k_sg tx (a + u) = (k_wo K).getD u 0) (h2 : j < (k_wo K).length) (h3 : ¬ k_sg tx (a + j) = (k_wo K).getD j 0) : k_mf tx K a = a + j := by
  have h := k_pw_stop h1 h2 h3
  unfold k_mf
  rw [h, if_pos h2]
theorem k_mf_all {tx : List Nat} {K a n : Nat} (hn : n = (k_wo K).length) (h1 : ∀ u, u < n → k_sg tx (a + u) = (k_wo K).getD u 0) : k_mf tx K a = a + n + k_rs tx K (a + n) := by
  subst hn
  have h := k_pw_all h1
  unfold k_mf
  rw [h, if_neg (Nat.lt_irrefl _)]
theorem k_rs_l {tx : List Nat} {i f : Nat} (h : 0 < k_ml (i + 1)) (hi : i < 5) : k_rs tx (i + 1) f = k_lw tx (k_ml (i + 1)) f := by
  obtain rfl | rfl | rfl | rfl | rfl : i = 0 ∨ i = 1 ∨ i = 2 ∨ i = 3 ∨ i = 4 := by omega
  all_goals first | rfl | exact absurd h (by decide)
theorem k_ml_3 {i : Nat} (h : k_ml (i + 1) = 0) (hi : i < 5) : i = 1 ∨ i = 2 ∨ i = 3 := by
  obtain rfl | rfl | rfl | rfl | rfl : i = 0 ∨ i = 1 ∨ i = 2 ∨ i = 3 ∨ i = 4 := by omega
  all_goals first | omega | exact absurd h (by decide)
theorem k_ml_60 {i : Nat} (hi : i < 5) : k_ml (i + 1) ≤ 60 := q_5 (P := fun i => k_ml (i + 1) ≤ 60) (by decide) (by decide) (by decide) (by decide) (by decide) i hi
theorem k_sho_7 {i : Nat} (hi : i < 5) : k_sho (i + 1) ≤ 7 := q_5 (P := fun i => k_sho (i + 1) ≤ 7) (by decide) (by decide) (by decide) (by decide) (by decide) i hi
/-- no character that a part may hold is a semicolon, or stands behind the end -/
theorem k_pw_blk {tx w : List Nat} (hw : ∀ z ∈ w, 1 ≤ z ∧ z ≠ 59) {a e : Nat} (h : a ≤ e) (hb : k_blk tx e) : a + k_pw tx w a ≤ e := by
  induction w generalizing a with
  | nil => exact h
  | cons z zs ih =>
    by_cases e1 : k_sg tx a = z
    · have hz := hw z (List.mem_cons_self ..)
      have hne : a ≠ e := fun x => by subst x; rcases hb with hb | hb <;> omega
      rw [k_pw_1 e1]
      have h2 := ih (fun y hy => hw y (List.mem_cons_of_mem _ hy)) (a := a + 1) (by omega)
      omega
    · rw [k_pw_0 e1]; omega
theorem k_lw_blk {tx : List Nat} {m i e : Nat} (h : i ≤ e) (hb : k_blk tx e) : i + k_lw tx m i ≤ e := by
  induction m generalizing i with
  | zero => exact h
  | succ m ih =>
    by_cases e1 : 97 ≤ k_sg tx i ∧ k_sg tx i ≤ 108
    · have hne : i ≠ e := fun x => by subst x; rcases hb with hb | hb <;> omega
      rw [k_lw_1 e1]
      have h2 := ih (i := i + 1) (by omega)
      omega
    · rw [k_lw_0 e1]; omega
theorem k_lw_e {tx : List Nat} {m e : Nat} (hb : k_blk tx e) : k_lw tx m e = 0 := k_lw_0 (fun z => by rcases hb with z1 | z1 <;> omega)
theorem k_dw_blk {tx : List Nat} {lo hi i e : Nat} (h : i ≤ e) (hb : k_blk tx e) : i + k_dw tx lo hi i ≤ e := by
  unfold k_dw
  split
  · rename_i h1
    have hne : i ≠ e := fun x => by subst x; rcases hb with hb | hb <;> omega
    split
    · rename_i h3
      have h4 := h3.2.1
      have hne : i + 1 ≠ e := fun x => by subst x; rcases hb with hb | hb <;> omega
      omega
    · omega
  · exact h
theorem k_mf_blk {tx : List Nat} {K a e : Nat} (h1 : 1 ≤ K) (h5 : K ≤ 5) (h : a ≤ e) (hb : k_blk tx e) : k_mf tx K a ≤ e := by
  have hw : ∀ z ∈ k_wo K, 1 ≤ z ∧ z ≠ 59 := by
    obtain rfl | rfl | rfl | rfl | rfl : K = 1 ∨ K = 2 ∨ K = 3 ∨ K = 4 ∨ K = 5 := by omega
    all_goals decide
  have h3 := k_pw_blk hw h hb
  unfold k_mf
  split
  · exact h3
  · rename_i h4
    have h5' := k_pw_le tx (k_wo K) a
    have h6 : a + (k_wo K).length ≤ e := by omega
    obtain rfl | rfl | rfl | rfl | rfl : K = 1 ∨ K = 2 ∨ K = 3 ∨ K = 4 ∨ K = 5 := by omega
    · exact k_lw_blk h6 hb
    · exact k_dw_blk h6 hb
    · exact h6
    · exact k_dw_blk h6 hb
    · exact k_lw_blk h6 hb
theorem k_mx_blk {tx : List Nat} {a e : Nat} (h : a ≤ e) (hb : k_blk tx e) : k_mx tx a ≤ e := k_mf_blk (k_kd_lt tx a).1 (k_kd_lt tx a).2 h hb
theorem k_mf_ge (tx : List Nat) (K a : Nat) : a ≤ k_mf tx K a := by unfold k_mf; split <;> omega
/-- the furthest of the first kinds -/
def k_mxu (tx : List Nat) (a : Nat) : Nat → Nat
  | 0 => a
  | n + 1 => max (k_mxu tx a n) (k_mf tx (n + 1) a)
theorem k_mxu_le {tx : List Nat} {a n : Nat} (h : n ≤ 5) : k_mxu tx a n ≤ k_mx tx a ∧ a ≤ k_mxu tx a n ∧ (k_kd tx a ≤ n → k_mx tx a ≤ k_mxu tx a n) := by
  induction n with
  | zero => exact ⟨k_mx_ge tx a, Nat.le_refl _, fun z => by have := k_kd_lt tx a; omega⟩
  | succ n ih =>
    obtain ⟨h1, h2, h3⟩ := ih (by omega)
    have h4 : k_mf tx (n + 1) a ≤ k_mx tx a := by
      by_cases e : n + 1 = k_kd tx a
      · rw [e]; exact Nat.le_refl _
      · exact (k_mf_other (by omega) h e).1
    refine ⟨Nat.max_le.mpr ⟨h1, h4⟩, Nat.le_trans h2 (Nat.le_max_left _ _), fun z => ?_⟩
    by_cases e : n + 1 = k_kd tx a
    · exact Nat.le_trans (by rw [e]; exact Nat.le_refl _) (Nat.le_max_right _ _)
    · exact Nat.le_trans (h3 (by omega)) (Nat.le_max_left _ _)
theorem k_mxu_5 (tx : List Nat) (a : Nat) : k_mxu tx a 5 = k_mx tx a := Nat.le_antisymm (k_mxu_le (Nat.le_refl 5)).1 ((k_mxu_le (Nat.le_refl 5)).2.2 (k_kd_lt tx a).2)
/-- a kind fits up to e, and is long enough, if it is the one that the first characters tell, and complete -/
theorem k_kind_yes {tx : List Nat} {a e x : Nat} (h5 : x < 5) (h1 : a + k_sho (x + 1) ≤ e) (h2 : k_mf tx (x + 1) a = e) : x + 1 = k_kd tx a ∧ k_okp tx a = true ∧ k_mx tx a = e := by
  by_cases hk : x + 1 = k_kd tx a
  · have hm : k_mx tx a = e := by unfold k_mx; rw [← hk]; exact h2
    refine ⟨hk, decide_eq_true ?_, hm⟩
    rw [← hk, hm]
    exact h1
  · have := (k_mf_other (by omega) (by omega) hk).2
    omega
theorem k_kind_ok {tx : List Nat} {a e : Nat} (h1 : k_okp tx a = true) (h2 : k_mx tx a = e) : a + k_sho (k_kd tx a) ≤ e ∧ k_mf tx (k_kd tx a) a = e := by
  have := of_decide_eq_true h1
  exact ⟨by omega, h2⟩
theorem k_kind_next {tx : List Nat} {a e x : Nat} (hko : a + k_sho (k_kd tx a) ≤ e ∧ k_mf tx (k_kd tx a) a = e) (hx : x < k_kd tx a) (hn : ¬ (a + k_sho (x + 1) ≤ e ∧ k_mf tx (x + 1) a = e)) : x + 1 < k_kd tx a := by
  rcases Nat.lt_or_ge (x + 1) (k_kd tx a) with z | z
  · exact z
  · have z2 : k_kd tx a = x + 1 := by omega
    rw [z2] at hko
    exact absurd hko hn
/-- the text read on, where the part's end is known -/
abbrev k_free (tx : List Nat) (a e : Nat) : Prop := ∀ u, a ≤ u → u < e → u < tx.length ∧ ¬ k_sg tx u = 59
theorem k_fr_noe {tx : List Nat} {n a e : Nat} (hae : a ≤ e) (hf : k_free tx a e) (hb : k_blk tx e) (h : ¬ (k_okp tx a = true ∧ k_mx tx a = e)) (hel : e ≤ tx.length) : k_fr tx (n + 1) a = (k_mx tx a, false) := by
  have hm := k_mx_blk hae hb
  have hg := k_mx_ge tx a
  unfold k_fr
  by_cases ho : k_okp tx a = true
  · have hlt : k_mx tx a < e := by
      have : k_mx tx a ≠ e := fun z => h ⟨ho, z⟩
      omega
    rw [if_pos ⟨ho, by omega⟩, if_neg (hf _ hg hlt).2]
  · rw [if_neg (fun z => ho z.1)]
    cases hk : k_okp tx a
    · rfl
    · exact absurd hk ho
theorem k_fr_goe {tx : List Nat} {n a e : Nat} (h : k_okp tx a = true ∧ k_mx tx a = e) (hel : e < tx.length) (hs : k_sg tx e = 59) : k_fr tx (n + 1) a = k_fr tx n (e + 1) := by
  obtain ⟨h1, h2⟩ := h
  conv => lhs; unfold k_fr
  rw [if_pos ⟨h1, by omega⟩, h2, if_pos hs]
theorem k_fr_yes {tx : List Nat} {n a e : Nat} (h : k_okp tx a = true ∧ k_mx tx a = e) (hel : e = tx.length) : k_fr tx (n + 1) a = (k_mx tx a, true) := by
  obtain ⟨h1, h2⟩ := h
  unfold k_fr
  rw [if_neg (fun z => by omega), h1]
theorem k_fr_last {tx : List Nat} {n a : Nat} (hae : a ≤ tx.length) (hf : k_free tx a tx.length) : (k_fr tx (n + 1) a).1 = k_mx tx a := by
  by_cases h : k_okp tx a = true ∧ k_mx tx a = tx.length
  · rw [k_fr_yes h rfl]
  · rw [k_fr_noe hae hf (Or.inl (k_sg_out (Nat.le_refl _))) h (Nat.le_refl _)]
/-- the loop over the text: where the part began, what is left to do -/
def k_Iw (tx : List Nat) (F : Nat × Bool) (st m x : Nat) : Prop := (st ≤ x ∧ x ≤ tx.length ∧ F = k_fr tx (m + 1) st ∧ 60 ≤ m + st ∧ k_free tx st x) ∨ (x = tx.length + 1 ∧ F.2 = true)
theorem k_Iw_0 (tx : List Nat) : k_Iw tx (k_fr tx 61 0) 0 60 0 := Or.inl ⟨Nat.le_refl _, Nat.zero_le _, rfl, Nat.le_refl _, fun u h1 h2 => absurd h2 (Nat.not_lt_zero _)⟩
theorem k_Iw_n {tx : List Nat} {F : Nat × Bool} {st m x : Nat} (h : k_Iw tx F st m x) (hx : x ≤ tx.length) (hn : ¬ (x = tx.length ∨ k_sg tx x = 59)) : k_Iw tx F st m (x + 1) := by
  rcases h with ⟨h1, h2, h3, h4, h5⟩ | h
  · refine Or.inl ⟨by omega, by omega, h3, h4, fun u hu1 hu2 => ?_⟩
    by_cases e : u = x
    · subst e; exact ⟨by omega, fun z => hn (Or.inr z)⟩
    · exact h5 u hu1 (by omega)
  · omega
theorem k_Iw_y {tx : List Nat} {F : Nat × Bool} {st m x : Nat} (h : k_Iw tx F st m x) (hx : x ≤ tx.length) (hend : x = tx.length ∨ k_sg tx x = 59) (hk : k_okp tx st = true ∧ k_mx tx st = x) (h60 : tx.length ≤ 60) : k_Iw tx F (x + 1) (m - 1) (x + 1) := by
  rcases h with ⟨h1, h2, h3, h4, h5⟩ | h
  · by_cases e : x = tx.length
    · refine Or.inr ⟨by omega, ?_⟩
      rw [h3, k_fr_yes hk e]
    · have hs : k_sg tx x = 59 := hend.resolve_left e
      refine Or.inl ⟨by omega, by omega, ?_, by omega, fun u hu1 hu2 => by omega⟩
      rw [h3, k_fr_goe hk (by omega) hs, show m - 1 + 1 = m by omega]
  · omega
theorem k_Iw_f {tx : List Nat} {F : Nat × Bool} {st m x : Nat} (h : k_Iw tx F st m x) (hx : x ≤ tx.length) (hb : k_blk tx x) (hk : ¬ (k_okp tx st = true ∧ k_mx tx st = x)) : F = (k_mx tx st, false) := by
  rcases h with ⟨h1, h2, h3, h4, h5⟩ | h
  · rw [h3, k_fr_noe h1 h5 hb hk hx]
  · omega
theorem k_Iw_t {tx : List Nat} {F : Nat × Bool} {st m x : Nat} (h : k_Iw tx F st m x) (hx : tx.length < x) : F.2 = true := by
  rcases h with ⟨h1, h2, h3, h4, h5⟩ | h
  · omega
  · exact h.2
theorem k_Iw_st {tx : List Nat} {F : Nat × Bool} {st m x : Nat} (h : k_Iw tx F st m x) (hx : x ≤ tx.length) : st ≤ x := by
  rcases h with h | h
  · exact h.1
  · omega
theorem k_Iw_l {tx : List Nat} {F : Nat × Bool} {st m : Nat} (h : k_Iw tx F st m tx.length) : F.1 = k_mx tx st := by
  rcases h with ⟨h1, h2, h3, h4, h5⟩ | h
  · rw [h3, k_fr_last h1 h5]
  · omega
theorem k_blk_end {tx : List Nat} {x : Nat} (h : x = tx.length ∨ k_sg tx x = 59) : k_blk tx x := by
  rcases h with rfl | h
  · exact Or.inl (k_sg_out (Nat.le_refl _))
  · exact Or.inr h
