/-! Works, part by part, as the class goes over the text -/
theorem k_okp_mx {tx : List Nat} {a K : Nat} (h : k_okp tx a = true) (hk : k_kd tx a = K) : k_mx tx a = a + (k_wo K).length + k_rs tx K (a + (k_wo K).length) := by
  rcases Nat.lt_or_ge (k_pw tx (k_wo K) a) (k_wo K).length with hp | hp
  · have hs : (k_wo K).length ≤ k_sho K := by
      have h2 := k_kd_lt tx a
      obtain e | e | e | e | e : K = 1 ∨ K = 2 ∨ K = 3 ∨ K = 4 ∨ K = 5 := by omega
      all_goals (rw [e]; decide)
    rw [(k_mx_part hk hp hs).2] at h; cases h
  · exact (k_mx_full hk hp rfl).1
theorem k_plA_pre (tx : List Nat) (n : Nat) {a : Nat} {ps : List Nat} (h : k_okp tx a = true) : ∃ r, k_plA tx n a ps = (ps ++ [a]) ++ r := by
  have hap : ∀ (n a : Nat) (ps : List Nat), ∃ r, k_plA tx n a ps = ps ++ r := by
    intro n
    induction n with
    | zero =>
      intro a ps
      show ∃ r, k_ap tx ps a = ps ++ r
      cases e : k_okp tx a with
      | false => exact ⟨[], by rw [k_ap_f e, List.append_nil]⟩
      | true => exact ⟨[a], k_ap_t e⟩
    | succ n ih =>
      intro a ps
      by_cases e : k_okp tx a = true ∧ k_mx tx a < tx.length ∧ k_sg tx (k_mx tx a) = 59
      · rw [k_pl_go e.1 e.2.1 e.2.2, k_ap_t e.1]
        obtain ⟨r, hr⟩ := ih (k_mx tx a + 1) (ps ++ [a])
        exact ⟨[a] ++ r, by rw [hr, List.append_assoc]⟩
      · rw [k_pl_no e]
        cases e : k_okp tx a with
        | false => exact ⟨[], by rw [k_ap_f e, List.append_nil]⟩
        | true => exact ⟨[a], k_ap_t e⟩
  cases n with
  | zero => exact ⟨[], by rw [List.append_nil]; exact k_ap_t h⟩
  | succ n =>
    by_cases e : k_okp tx a = true ∧ k_mx tx a < tx.length ∧ k_sg tx (k_mx tx a) = 59
    · rw [k_pl_go e.1 e.2.1 e.2.2, k_ap_t e.1]
      exact hap n _ _
    · rw [k_pl_no e, k_ap_t h]
      exact ⟨[], (List.append_nil _).symm⟩
/-- the loop of the parts: where the part began, what is left, the parts done -/
def k_Wk (tx : List Nat) (st m x j : Nat) (ps : List Nat) : Prop := ((st ≤ x ∧ x ≤ tx.length ∧ 60 ≤ m + st ∧ k_free tx st x) ∧ k_rp tx = k_plA tx (m + 1) st ps ∧ (k_fr tx (m + 1) st).2 = true ∧ ps.length = j) ∨ (x = tx.length + 1 ∧ (k_rp tx).length = j)
theorem k_Wk_0 {tx : List Nat} (h : (k_fr tx 61 0).2 = true) : k_Wk tx 0 60 0 0 [] := Or.inl ⟨⟨Nat.le_refl _, Nat.zero_le _, Nat.le_refl _, fun u h1 h2 => absurd h2 (Nat.not_lt_zero _)⟩, rfl, h, rfl⟩
theorem k_Wk_n {tx : List Nat} {st m x j : Nat} {ps : List Nat} (h : k_Wk tx st m x j ps) (hx : x ≤ tx.length) (hn : ¬ (x = tx.length ∨ k_sg tx x = 59)) : k_Wk tx st m (x + 1) j ps := by
  rcases h with ⟨⟨h1, h2, h4, h5⟩, h6⟩ | h
  · refine Or.inl ⟨⟨by omega, by omega, h4, fun u hu1 hu2 => ?_⟩, h6⟩
    by_cases e : u = x
    · subst e; exact ⟨by omega, fun z => hn (Or.inr z)⟩
    · exact h5 u hu1 (by omega)
  · omega
theorem k_Wk_at {tx : List Nat} {st m x j : Nat} {ps : List Nat} (h : k_Wk tx st m x j ps) (hx : x ≤ tx.length) (hend : x = tx.length ∨ k_sg tx x = 59) : (k_okp tx st = true ∧ k_mx tx st = x) ∧ st ≤ x ∧ j < (k_rp tx).length ∧ k_at (k_rp tx) j = st := by
  rcases h with ⟨⟨h1, h2, h4, h5⟩, h6, h7, h8⟩ | h
  · have hk : k_okp tx st = true ∧ k_mx tx st = x := by
      by_cases e : k_okp tx st = true ∧ k_mx tx st = x
      · exact e
      · rw [k_fr_noe h1 h5 (k_blk_end hend) e hx] at h7; cases h7
    obtain ⟨r, hr⟩ := k_plA_pre tx (m + 1) (ps := ps) hk.1
    rw [← h6] at hr
    refine ⟨hk, h1, ?_, ?_⟩
    · rw [hr]; simp; omega
    · rw [hr]; subst h8; simp [k_at]
  · omega
theorem k_Wk_y {tx : List Nat} {st m x j : Nat} {ps : List Nat} (h : k_Wk tx st m x j ps) (hx : x ≤ tx.length) (hend : x = tx.length ∨ k_sg tx x = 59) (h60 : tx.length ≤ 60) : k_Wk tx (x + 1) (m - 1) (x + 1) (j + 1) (ps ++ [st]) := by
  obtain ⟨hk, -, -, -⟩ := k_Wk_at h hx hend
  rcases h with ⟨⟨h1, h2, h4, h5⟩, h6, h7, h8⟩ | h
  · by_cases e : x = tx.length
    · refine Or.inr ⟨by omega, ?_⟩
      rw [h6, k_pl_no (fun z => by omega), k_ap_t hk.1, List.length_append, List.length_singleton, h8]
    · have hs : k_sg tx x = 59 := hend.resolve_left e
      refine Or.inl ⟨⟨by omega, by omega, by omega, fun u hu1 hu2 => by omega⟩, ?_, ?_, by rw [List.length_append, List.length_singleton, h8]⟩
      · rw [h6, k_pl_go hk.1 (by omega) (by rw [hk.2]; exact hs), k_ap_t hk.1, hk.2, show m - 1 + 1 = m by omega]
      · rw [k_fr_goe hk (by omega) hs] at h7
        rw [show m - 1 + 1 = m by omega]; exact h7
  · omega
theorem k_Wk_t {tx : List Nat} {st m x j : Nat} {ps : List Nat} (h : k_Wk tx st m x j ps) (hx : tx.length < x) : j = (k_rp tx).length := by
  rcases h with ⟨⟨h1, h2, h4, h5⟩, h6⟩ | h
  · omega
  · exact h.2.symm
theorem k_Wk_j {tx : List Nat} {st m x j : Nat} {ps : List Nat} (h : k_Wk tx st m x j ps) (h0 : j ≤ (k_rp tx).length) : j ≤ (k_rp tx).length := h0
def k_i9 (_cI : ClassId) (a : Nat) (w : va_W) : Prop := w = [(a, .inr (5, [.null, .null, .null, .int 0, .null, .null]))]
