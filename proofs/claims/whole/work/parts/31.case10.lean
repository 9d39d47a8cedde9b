/-! To do the parts -/
def k_sl (tx : List Nat) : Nat → Nat → k_S → k_S × Nat
  | 0, _, S => (S, 0)
  | m + 1, i, S => if k_wn S.1 S.2.2.1 S.2.2.2 (k_sg tx i - 97) = 0 then k_sl tx m (i + 1) (k_set S (k_sg tx i - 97)) else (S, k_wn S.1 S.2.2.1 S.2.2.2 (k_sg tx i - 97))
def k_fxi (S : k_S) (p : Nat) : k_S × Nat := if p < S.2.2.1.length then (if k_wc S.1 S.2.2.1 S.2.2.2 p = 0 then (k_cor S p, 0) else (S, k_wc S.1 S.2.2.1 S.2.2.2 p)) else (S, 7)
def k_rti (S : k_S) : k_S × Nat := if k_wy S.1 S.2.2.1 S.2.2.2 = 0 then (k_ret S, 0) else (S, 6)
def k_dpt (tx : List Nat) (S : k_S) (a : Nat) : k_S × Nat :=
  if k_kd tx a = 1 then k_sl tx (k_lw tx 60 (a + 4)) (a + 4) S else if k_kd tx a = 2 then k_fxi S (k_nv tx 40 (a + 3)) else if k_kd tx a = 3 then k_rti S
  else if k_kd tx a = 4 then (k_rest S (k_nv tx 99 (a + 4)), 0) else (k_xch S (k_sg tx (a + 5) - 97) (k_sg tx (a + 6) - 97), 0)
theorem k_dpt_1 {tx : List Nat} {S : k_S} {a : Nat} (h : k_kd tx a = 1) : k_dpt tx S a = k_sl tx (k_lw tx 60 (a + 4)) (a + 4) S := if_pos h
theorem k_dpt_2 {tx : List Nat} {S : k_S} {a : Nat} (h : k_kd tx a = 2) : k_dpt tx S a = k_fxi S (k_nv tx 40 (a + 3)) := by unfold k_dpt; rw [if_neg (by omega), if_pos h]
theorem k_dpt_3 {tx : List Nat} {S : k_S} {a : Nat} (h : k_kd tx a = 3) : k_dpt tx S a = k_rti S := by unfold k_dpt; rw [if_neg (by omega), if_neg (by omega), if_pos h]
theorem k_dpt_4 {tx : List Nat} {S : k_S} {a : Nat} (h : k_kd tx a = 4) : k_dpt tx S a = (k_rest S (k_nv tx 99 (a + 4)), 0) := by unfold k_dpt; rw [if_neg (by omega), if_neg (by omega), if_neg (by omega), if_pos h]
theorem k_dpt_5 {tx : List Nat} {S : k_S} {a : Nat} (h : k_kd tx a = 5) : k_dpt tx S a = (k_xch S (k_sg tx (a + 5) - 97) (k_sg tx (a + 6) - 97), 0) := by unfold k_dpt; rw [if_neg (by omega), if_neg (by omega), if_neg (by omega), if_neg (by omega)]
/-- what goes on holding: the settings are in their ranges -/
def k_Sw (S : k_S) : Prop := k_Sok S ∧ (∃ m, m ≤ 120 ∧ S.2.2.2 0 = nI m) ∧ S.2.2.2 1 = nI (k_n1 S.2.2.2) ∧ k_n1 S.2.2.2 ≤ 9
theorem k_Sw_of {S T : k_S} (h : k_Sw S) (hT : k_Sok T) (e : ∀ i, i < 3 → T.2.2.2 i = S.2.2.2 i) : k_Sw T := by
  obtain ⟨-, h2, h3, h4⟩ := h
  have e1 : k_n1 T.2.2.2 = k_n1 S.2.2.2 := by unfold k_n1; rw [e 1 (by decide)]
  exact ⟨hT, by rw [e 0 (by decide)]; exact h2, by rw [e1, e 1 (by decide)]; exact h3, by rw [e1]; exact h4⟩
theorem k_Sw_40 {S : k_S} {c : Nat} (h : k_Sw S) (hw : k_wn S.1 S.2.2.1 S.2.2.2 c = 0) : S.2.2.1.length < 40 := k_wn_40 h.1.2.2.1 hw h.2.1
theorem k_Sw_set {S : k_S} {c : Nat} (h : k_Sw S) (hc : c < 12) (hw : k_wn S.1 S.2.2.1 S.2.2.2 c = 0) : k_Sw (k_set S c) :=
  k_Sw_of h (k_Sok_set h.1 hc (k_wn_inv hw).1 (k_Sw_40 h hw)) (fun i hi => k_set_sc hi)
theorem k_Sw_cor {S : k_S} {p : Nat} (h : k_Sw S) (hp : p < S.2.2.1.length) (hw : k_wc S.1 S.2.2.1 S.2.2.2 p = 0) : k_Sw (k_cor S p) := by
  obtain ⟨-, -, hl⟩ := k_wc_inv hw
  have hla := k_la_lt h.1.2.2 hp
  refine k_Sw_of h ⟨h.1.1, k_Bok_cut (k_Bok_put h.1.2.1 hl hla.1), k_Lok_rep h.1.2.2 hp hla.2⟩ (fun i hi => ?_)
  show upd (upd _ 8 _) 3 _ i = _
  rw [pk_un (by omega), pk_un (by omega)]
theorem k_rb_ok {bx : k_Bx} {ln : List (Nat × Nat)} {sc : Nat → Int32} (hb : k_Bok bx) (hl : k_Lok ln) (hw : k_wy bx ln sc = 0) (j : Nat) (hj : j ≤ ln.length) : k_Bok (k_rb bx ln sc j) := by
  induction j with
  | zero => exact hb
  | succ j ih => exact k_Bok_put (ih (by omega)) (k_rb_room hw hl (by omega)) (k_la_lt hl (by omega)).1
theorem k_Sw_ret {S : k_S} (h : k_Sw S) (hw : k_wy S.1 S.2.2.1 S.2.2.2 = 0) : k_Sw (k_ret S) := by
  refine k_Sw_of h ⟨h.1.1, k_rb_ok h.1.2.1 h.1.2.2 hw _ (Nat.le_refl _), k_Lok_nil⟩ (fun i hi => ?_)
  show upd (upd _ 9 _) 3 _ i = _
  rw [pk_un (by omega), pk_un (by omega)]
theorem k_Sw_rest {S : k_S} {n : Nat} (h : k_Sw S) : k_Sw (k_rest S n) := by
  have h1 := k_bs_ok (hd := (upd S.2.2.2 3 (-1)) 3) h.1.2.1 h.1.1 n
  refine k_Sw_of h ⟨h1.2, h1.1, h.1.2.2⟩ (fun i hi => ?_)
  show upd (upd _ 7 _) 6 _ i = _
  rw [pk_un (by omega), pk_un (by omega)]
  show upd S.2.2.2 3 (-1) i = _
  rw [pk_un (by omega)]
theorem k_Bok_ex {bx : k_Bx} {b o : Nat} (h : k_Bok bx) (hb : b < 12) (ho : o < 12) : k_Bok (k_ex bx b o) := by
  have hlb := (h b hb).1
  have hlo := (h o ho).1
  by_cases e : b = o
  · unfold k_ex; rw [if_pos e]; exact h
  · rcases Nat.eq_zero_or_pos (bx b).length with h1 | h1 <;> rcases Nat.eq_zero_or_pos (bx o).length with h2 | h2
    · rw [k_ex_00 e h1 h2]; exact h
    · rw [k_ex_01 e h1 h2]; exact k_Bok_put (k_Bok_drop h) (by rw [k_drop_n e]; omega) (k_x_lt h ho h2)
    · rw [k_ex_10 e h1 h2]; exact k_Bok_put (k_Bok_drop h) (by rw [k_drop_n (fun z => e z.symm)]; omega) (k_x_lt h hb h1)
    · rw [k_ex_11 e h1 h2]
      refine k_Bok_put (k_Bok_put (k_Bok_drop (k_Bok_drop h)) ?_ (k_x_lt h hb h1)) ?_ (k_x_lt (k_Bok_drop h) ho (by rw [k_drop_n (fun z => e z.symm)]; exact h2))
      · rw [k_drop_s, k_drop_n (fun z => e z.symm), List.length_dropLast]; omega
      · rw [k_put_n e, k_drop_n e, k_drop_s, List.length_dropLast]; omega
theorem k_Sw_xch {S : k_S} {b o : Nat} (h : k_Sw S) (hb : b < 12) (ho : o < 12) : k_Sw (k_xch S b o) := by
  refine k_Sw_of h ⟨h.1.1, k_Bok_ex h.1.2.1 hb ho, h.1.2.2⟩ (fun i hi => ?_)
  show upd _ 3 _ i = _
  rw [pk_un (by omega)]
theorem k_Sw_sl {tx : List Nat} (m : Nat) {i : Nat} {S : k_S} (h : k_Sw S) (hl : ∀ j, j < m → 97 ≤ k_sg tx (i + j) ∧ k_sg tx (i + j) ≤ 108) : k_Sw (k_sl tx m i S).1 := by
  induction m generalizing i S with
  | zero => exact h
  | succ m ih =>
    have h0 := hl 0 (by omega)
    rw [Nat.add_zero] at h0
    simp only [k_sl]
    split
    · rename_i hw
      exact ih (k_Sw_set h (by omega) hw) (fun j hj => by have := hl (j + 1) (by omega); rw [show i + 1 + j = i + (j + 1) by omega]; exact this)
    · exact h
theorem k_lw_all {tx : List Nat} {m i j : Nat} (h : j < k_lw tx m i) : 97 ≤ k_sg tx (i + j) ∧ k_sg tx (i + j) ≤ 108 := by
  induction m generalizing i j with
  | zero => cases h
  | succ m ih =>
    by_cases e : 97 ≤ k_sg tx i ∧ k_sg tx i ≤ 108
    · rw [k_lw_1 e] at h
      cases j with
      | zero => exact e
      | succ j => rw [show i + (j + 1) = i + 1 + j by omega]; exact ih (by omega)
    · rw [k_lw_0 e] at h; cases h
theorem k_sl_go {tx : List Nat} {m i c : Nat} {S : k_S} (hc : k_sg tx i - 97 = c) (h : k_wn S.1 S.2.2.1 S.2.2.2 c = 0) : k_sl tx (m + 1) i S = k_sl tx m (i + 1) (k_set S c) := by
  subst hc; exact if_pos h
theorem k_sl_no {tx : List Nat} {m i c : Nat} {S : k_S} (hc : k_sg tx i - 97 = c) (h : ¬ k_wn S.1 S.2.2.1 S.2.2.2 c = 0) : k_sl tx (m + 1) i S = (S, k_wn S.1 S.2.2.1 S.2.2.2 c) := by
  subst hc; exact if_neg h
/-- what a complete part holds -/
theorem k_okp_is {tx : List Nat} {a K : Nat} (h : k_okp tx a = true) (hk : k_kd tx a = K) : k_sho K ≤ (k_wo K).length + k_rs tx K (a + (k_wo K).length) := by
  rcases Nat.lt_or_ge (k_pw tx (k_wo K) a) (k_wo K).length with hp | hp
  · have hs : (k_wo K).length ≤ k_sho K := by
      have h2 := k_kd_lt tx a
      obtain e | e | e | e | e : K = 1 ∨ K = 2 ∨ K = 3 ∨ K = 4 ∨ K = 5 := by omega
      all_goals (rw [e]; decide)
    rw [(k_mx_part hk hp hs).2] at h; cases h
  · rw [(k_mx_full hk hp rfl).2] at h
    exact of_decide_eq_true h
theorem k_nv_le {tx : List Nat} {lo hi i : Nat} (h9 : 9 ≤ hi) (h : 48 + lo ≤ k_sg tx i ∧ k_sg tx i ≤ 57) : k_nv tx hi i ≤ hi := by
  unfold k_nv
  split
  · rename_i h2; exact h2.2.2
  · omega
theorem k_dw_pos {tx : List Nat} {lo hi i : Nat} (h : 1 ≤ k_dw tx lo hi i) : 48 + lo ≤ k_sg tx i ∧ k_sg tx i ≤ 57 := by
  rcases Decidable.em (48 + lo ≤ k_sg tx i ∧ k_sg tx i ≤ 57) with e | e
  · exact e
  · rw [k_dw_0 e] at h; omega
theorem k_Sw_dpt {tx : List Nat} {S : k_S} {a : Nat} (h : k_Sw S) (ho : k_okp tx a = true) : k_Sw (k_dpt tx S a).1 := by
  have h2 := k_kd_lt tx a
  obtain e | e | e | e | e : k_kd tx a = 1 ∨ k_kd tx a = 2 ∨ k_kd tx a = 3 ∨ k_kd tx a = 4 ∨ k_kd tx a = 5 := by omega
  · rw [k_dpt_1 e]; exact k_Sw_sl _ h (fun j hj => k_lw_all hj)
  · rw [k_dpt_2 e]
    unfold k_fxi
    split
    · rename_i hp
      split
      · rename_i hw; exact k_Sw_cor h hp hw
      · exact h
    · exact h
  · rw [k_dpt_3 e]
    unfold k_rti
    split
    · rename_i hw; exact k_Sw_ret h hw
    · exact h
  · rw [k_dpt_4 e]; exact k_Sw_rest h
  · have h3 := k_okp_is ho e
    rw [k_dpt_5 e]
    have h4 : 2 ≤ k_lw tx 2 (a + 5) := by
      have : k_sho 5 = 7 := rfl
      have : (k_wo 5).length = 5 := rfl
      have : k_rs tx 5 (a + (k_wo 5).length) = k_lw tx 2 (a + 5) := rfl
      omega
    have h5 := k_lw_all (j := 0) (show 0 < k_lw tx 2 (a + 5) by omega)
    have h6 := k_lw_all (j := 1) (show 1 < k_lw tx 2 (a + 5) by omega)
    exact k_Sw_xch h (by rw [Nat.add_zero] at h5; omega) (by rw [show a + 5 + 1 = a + 6 by omega] at h6; omega)
/-- the first j parts done, one after another; whether part j can be done -/
def k_di (tx ps : List Nat) (S : k_S) : Nat → k_S
  | 0 => S
  | j + 1 => (k_dpt tx (k_di tx ps S j) (k_at ps j)).1
def k_dy (tx ps : List Nat) (S : k_S) (j : Nat) : Nat := (k_dpt tx (k_di tx ps S j) (k_at ps j)).2
def k_dn (tx ps : List Nat) (S : k_S) : Nat := k_first (fun j => !(k_dy tx ps S j == 0)) ps.length
/-- the state behind a text, ahead of what is written of the stop; and the stop -/
def k_dS (tx ps : List Nat) (S : k_S) : k_S := if k_dn tx ps S < ps.length then k_di tx ps S (k_dn tx ps S + 1) else k_di tx ps S ps.length
def k_wks (tx : List Nat) (S : k_S) : k_S :=
  if k_dn tx (k_rp tx) S < (k_rp tx).length then ((k_dS tx (k_rp tx) S).1, (k_dS tx (k_rp tx) S).2.1, (k_dS tx (k_rp tx) S).2.2.1, upd (upd (k_dS tx (k_rp tx) S).2.2.2 10 (nI (k_dn tx (k_rp tx) S))) 11 (nI (k_dy tx (k_rp tx) S (k_dn tx (k_rp tx) S))))
  else ((k_dS tx (k_rp tx) S).1, (k_dS tx (k_rp tx) S).2.1, (k_dS tx (k_rp tx) S).2.2.1, upd (upd (k_dS tx (k_rp tx) S).2.2.2 10 (-1)) 11 (-1))
theorem k_plA_ok (tx : List Nat) (n : Nat) {a : Nat} {ps : List Nat} (h : ∀ x ∈ ps, k_okp tx x = true) : ∀ x ∈ k_plA tx n a ps, k_okp tx x = true := by
  have hap : ∀ (a : Nat) (ps : List Nat), (∀ x ∈ ps, k_okp tx x = true) → ∀ x ∈ k_ap tx ps a, k_okp tx x = true := by
    intro a ps h x hx
    cases e : k_okp tx a with
    | false => rw [k_ap_f e] at hx; exact h x hx
    | true =>
      rw [k_ap_t e] at hx
      rcases List.mem_append.mp hx with hx | hx
      · exact h x hx
      · rw [List.mem_singleton.mp hx]; exact e
  induction n generalizing a ps with
  | zero => exact hap a ps h
  | succ n ih =>
    simp only [k_plA]
    split
    · exact ih (hap a ps h)
    · exact hap a ps h
theorem k_rp_ok {tx : List Nat} {j : Nat} (h : j < (k_rp tx).length) : k_okp tx (k_at (k_rp tx) j) = true := k_at_le (P := fun x => k_okp tx x = true) (k_plA_ok tx 61 (fun x hx => by cases hx)) h
theorem k_Sw_di {tx : List Nat} {S : k_S} (h : k_Sw S) (j : Nat) (hj : j ≤ (k_rp tx).length) : k_Sw (k_di tx (k_rp tx) S j) := by
  induction j with
  | zero => exact h
  | succ j ih => exact k_Sw_dpt (ih (by omega)) (k_rp_ok (by omega))
theorem k_dy_le {tx : List Nat} {S : k_S} {a : Nat} : (k_dpt tx S a).2 ≤ 7 := by
  have h2 := k_kd_lt tx a
  have hsl : ∀ (m i : Nat) (S : k_S), (k_sl tx m i S).2 ≤ 7 := by
    intro m
    induction m with
    | zero => intro i S; exact Nat.zero_le _
    | succ m ih =>
      intro i S
      simp only [k_sl]
      split
      · exact ih _ _
      · have := k_wn_le S.1 S.2.2.1 S.2.2.2 (k_sg tx i - 97); omega
  obtain e | e | e | e | e : k_kd tx a = 1 ∨ k_kd tx a = 2 ∨ k_kd tx a = 3 ∨ k_kd tx a = 4 ∨ k_kd tx a = 5 := by omega
  · rw [k_dpt_1 e]; exact hsl _ _ _
  · rw [k_dpt_2 e]
    unfold k_fxi
    split
    · split
      · exact Nat.zero_le _
      · have := k_wc_le S.1 S.2.2.1 S.2.2.2 (k_nv tx 40 (a + 3)); omega
    · exact Nat.le_refl _
  · rw [k_dpt_3 e]
    unfold k_rti
    split
    · exact Nat.zero_le _
    · show 6 ≤ 7; omega
  · rw [k_dpt_4 e]; exact Nat.zero_le _
  · rw [k_dpt_5 e]; exact Nat.zero_le _
theorem k_swap_ok {tx : List Nat} {a : Nat} (ho : k_okp tx a = true) (e : k_kd tx a = 5) : k_sg tx (a + 5) - 97 < 12 ∧ k_sg tx (a + 6) - 97 < 12 := by
  have h3 := k_okp_is ho e
  have h4 : 2 ≤ k_lw tx 2 (a + 5) := by
    have : k_sho 5 = 7 := rfl
    have : (k_wo 5).length = 5 := rfl
    have : k_rs tx 5 (a + (k_wo 5).length) = k_lw tx 2 (a + 5) := rfl
    omega
  have h5 := k_lw_all (j := 0) (show 0 < k_lw tx 2 (a + 5) by omega)
  have h6 := k_lw_all (j := 1) (show 1 < k_lw tx 2 (a + 5) by omega)
  exact ⟨by rw [Nat.add_zero] at h5; omega, by rw [show a + 5 + 1 = a + 6 by omega] at h6; omega⟩
theorem k_di_s {tx ps : List Nat} {S : k_S} {j : Nat} : k_di tx ps S (j + 1) = (k_dpt tx (k_di tx ps S j) (k_at ps j)).1 := rfl
theorem k_plA_le (tx : List Nat) (n : Nat) {a : Nat} {ps : List Nat} (ha : a ≤ tx.length) (h : ∀ x ∈ ps, x ≤ tx.length) (h5 : 5 * ps.length ≤ a) : (∀ x ∈ k_plA tx n a ps, x ≤ tx.length) ∧ 5 * (k_plA tx n a ps).length ≤ tx.length + 5 := by
  have hap : ∀ (a : Nat) (ps : List Nat), a ≤ tx.length → (∀ x ∈ ps, x ≤ tx.length) → 5 * ps.length ≤ a → (∀ x ∈ k_ap tx ps a, x ≤ tx.length) ∧ 5 * (k_ap tx ps a).length ≤ a + 5 ∧ (k_okp tx a = true → 5 * (k_ap tx ps a).length ≤ k_mx tx a + 1) := by
    intro a ps ha h h5
    cases e : k_okp tx a with
    | false => rw [k_ap_f e]; exact ⟨h, by omega, fun z => by cases z⟩
    | true =>
      have := k_okp_ge e
      rw [k_ap_t e]
      refine ⟨fun x hx => ?_, by rw [List.length_append, List.length_singleton]; omega, fun _ => by rw [List.length_append, List.length_singleton]; omega⟩
      rcases List.mem_append.mp hx with hx | hx
      · exact h x hx
      · rw [List.mem_singleton.mp hx]; exact ha
  induction n generalizing a ps with
  | zero => have := hap a ps ha h h5; exact ⟨this.1, by show 5 * (k_ap tx ps a).length ≤ _; omega⟩
  | succ n ih =>
    have h1 := hap a ps ha h h5
    by_cases e : k_okp tx a = true ∧ k_mx tx a < tx.length ∧ k_sg tx (k_mx tx a) = 59
    · rw [k_pl_go e.1 e.2.1 e.2.2]
      exact ih (by omega) h1.1 (h1.2.2 e.1)
    · rw [k_pl_no e]
      exact ⟨h1.1, by omega⟩
theorem k_rp_le {tx : List Nat} {j : Nat} (h : j < (k_rp tx).length) : k_at (k_rp tx) j ≤ tx.length := k_at_le (P := fun x => x ≤ tx.length) (k_plA_le tx 61 (Nat.zero_le _) (fun x hx => by cases hx) (Nat.le_refl _)).1 h
theorem k_rp_len (tx : List Nat) : 5 * (k_rp tx).length ≤ tx.length + 5 := (k_plA_le tx 61 (Nat.zero_le _) (fun x hx => by cases hx) (Nat.le_refl _)).2
theorem k_wks_A {tx : List Nat} {S : k_S} (h : ∀ u, u < (k_rp tx).length → k_dy tx (k_rp tx) S u = 0) : k_dn tx (k_rp tx) S = (k_rp tx).length ∧ k_wks tx S = ((k_di tx (k_rp tx) S (k_rp tx).length).1, (k_di tx (k_rp tx) S (k_rp tx).length).2.1, (k_di tx (k_rp tx) S (k_rp tx).length).2.2.1, upd (upd (k_di tx (k_rp tx) S (k_rp tx).length).2.2.2 10 (-1)) 11 (-1)) := by
  have h1 : k_dn tx (k_rp tx) S = (k_rp tx).length := k_first_no (fun u hu => by rw [h u hu]; rfl)
  refine ⟨h1, ?_⟩
  unfold k_wks k_dS
  rw [h1, if_neg (by omega), if_neg (by omega)]
theorem k_wks_B {tx : List Nat} {S : k_S} {j : Nat} (hj : j < (k_rp tx).length) (hn : ¬ k_dy tx (k_rp tx) S j = 0) (h : ∀ u, u < j → k_dy tx (k_rp tx) S u = 0) : k_dn tx (k_rp tx) S = j ∧ k_wks tx S = ((k_di tx (k_rp tx) S (j + 1)).1, (k_di tx (k_rp tx) S (j + 1)).2.1, (k_di tx (k_rp tx) S (j + 1)).2.2.1, upd (upd (k_di tx (k_rp tx) S (j + 1)).2.2.2 10 (nI j)) 11 (nI (k_dy tx (k_rp tx) S j))) := by
  have h1 : k_dn tx (k_rp tx) S = j := k_first_eq hj (by simp [hn]) (fun u hu => by rw [h u hu]; rfl)
  refine ⟨h1, ?_⟩
  unfold k_wks k_dS
  rw [h1, if_pos hj, if_pos hj]
