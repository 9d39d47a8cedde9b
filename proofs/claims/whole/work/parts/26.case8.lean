/-! WORKS AS A TEXT: a part is read from its first character on; no character that a part may hold is a semicolon, or stands behind the end -/
def k_sg (tx : List Nat) (i : Nat) : Nat := if i < tx.length then k_at tx i else 0
theorem k_sg_in {tx : List Nat} {i : Nat} (h : i < tx.length) : k_sg tx i = k_at tx i := if_pos h
theorem k_sg_out {tx : List Nat} {i : Nat} (h : tx.length ≤ i) : k_sg tx i = 0 := if_neg (by omega)
theorem k_sg_le {tx : List Nat} (h : k_Tok tx) (i : Nat) : k_sg tx i ≤ 126 := by
  unfold k_sg
  split
  · rename_i hi; exact (k_at_le h.2 hi).2
  · omega
/-- how much of a word stands there -/
def k_pw (tx : List Nat) : List Nat → Nat → Nat
  | [], _ => 0
  | z :: zs, a => if k_sg tx a = z then 1 + k_pw tx zs (a + 1) else 0
abbrev k_lt (x : Nat) : Prop := 97 ≤ x ∧ x ≤ 108
/-- how many letters stand there, m at the most -/
def k_lw (tx : List Nat) : Nat → Nat → Nat
  | 0, _ => 0
  | m + 1, i => if k_lt (k_sg tx i) then 1 + k_lw tx m (i + 1) else 0
abbrev k_dg (x : Nat) : Prop := 48 ≤ x ∧ x ≤ 57
/-- how many digits of a number from lo to hi stand there -/
def k_dw (tx : List Nat) (lo hi i : Nat) : Nat := if 48 + lo ≤ k_sg tx i ∧ k_sg tx i ≤ 57 then (if 48 < k_sg tx i ∧ k_dg (k_sg tx (i + 1)) ∧ 10 * (k_sg tx i - 48) + k_sg tx (i + 1) - 48 ≤ hi then 2 else 1) else 0
/-- the number -/
def k_nv (tx : List Nat) (hi i : Nat) : Nat := if 48 < k_sg tx i ∧ k_dg (k_sg tx (i + 1)) ∧ 10 * (k_sg tx i - 48) + k_sg tx (i + 1) - 48 ≤ hi then 10 * (k_sg tx i - 48) + k_sg tx (i + 1) - 48 else k_sg tx i - 48
/-- the kinds: 1 set, 2 fix, 3 back, 4 idle, 5 swap -/
def k_wo : Nat → List Nat
  | 1 => [115, 101, 116, 58]
  | 2 => [102, 105, 120]
  | 3 => [98, 97, 99, 107]
  | 4 => [105, 100, 108, 101]
  | _ => [115, 119, 97, 112, 58]
def k_rs (tx : List Nat) : Nat → Nat → Nat
  | 1, i => k_lw tx 60 i
  | 2, i => k_dw tx 0 40 i
  | 3, _ => 0
  | 4, i => k_dw tx 1 99 i
  | _, i => k_lw tx 2 i
def k_sho : Nat → Nat
  | 1 => 5
  | 2 => 4
  | 3 => 4
  | 4 => 5
  | _ => 7
/-- where a part of this kind, begun at a, fits no more -/
def k_mf (tx : List Nat) (K a : Nat) : Nat := if k_pw tx (k_wo K) a < (k_wo K).length then a + k_pw tx (k_wo K) a else a + (k_wo K).length + k_rs tx K (a + (k_wo K).length)
def k_kd (tx : List Nat) (a : Nat) : Nat := if k_sg tx a = 115 then (if k_sg tx (a + 1) = 119 then 5 else 1) else if k_sg tx a = 102 then 2 else if k_sg tx a = 98 then 3 else 4
def k_mx (tx : List Nat) (a : Nat) : Nat := k_mf tx (k_kd tx a) a
def k_okp (tx : List Nat) (a : Nat) : Bool := decide (a + k_sho (k_kd tx a) ≤ k_mx tx a)
theorem k_pw_le (tx w : List Nat) (a : Nat) : k_pw tx w a ≤ w.length := by
  induction w generalizing a with
  | nil => exact Nat.le_refl _
  | cons z zs ih =>
    simp only [k_pw]
    split
    · have := ih (a + 1); simp only [List.length_cons]; omega
    · exact Nat.zero_le _
theorem k_pw_0 {tx w : List Nat} {z a : Nat} (h : ¬ k_sg tx a = z) : k_pw tx (z :: w) a = 0 := if_neg h
theorem k_pw_1 {tx w : List Nat} {z a : Nat} (h : k_sg tx a = z) : k_pw tx (z :: w) a = 1 + k_pw tx w (a + 1) := if_pos h
theorem k_kd_lt (tx : List Nat) (a : Nat) : 1 ≤ k_kd tx a ∧ k_kd tx a ≤ 5 := by
  unfold k_kd
  repeat' split
  all_goals omega
/-- a kind that is not the one told by the first characters goes on no further than that one, and not far enough -/
theorem k_mf_other {tx : List Nat} {K a : Nat} (h1 : 1 ≤ K) (h5 : K ≤ 5) (hK : K ≠ k_kd tx a) : k_mf tx K a ≤ k_mx tx a ∧ k_mf tx K a < a + k_sho K := by
  have hge : a ≤ k_mx tx a := by unfold k_mx k_mf; split <;> omega
  by_cases e1 : k_sg tx a = 115
  · by_cases e2 : k_sg tx (a + 1) = 119
    · have hk : k_kd tx a = 5 := by unfold k_kd; rw [if_pos e1, if_pos e2]
      have hm : a + 2 ≤ k_mx tx a := by
        unfold k_mx; rw [hk]; unfold k_mf
        have : 2 ≤ k_pw tx (k_wo 5) a := by
          show 2 ≤ k_pw tx [115, 119, 97, 112, 58] a
          rw [k_pw_1 e1, k_pw_1 e2]; omega
        have hl : (k_wo 5).length = 5 := rfl
        split <;> omega
      rw [hk] at hK
      obtain rfl | rfl | rfl | rfl : K = 1 ∨ K = 2 ∨ K = 3 ∨ K = 4 := by omega
      · have hp : k_pw tx (k_wo 1) a = 1 := by show k_pw tx [115, 101, 116, 58] a = 1; rw [k_pw_1 e1, k_pw_0 (by omega)]
        unfold k_mf; rw [hp, if_pos (by decide)]; exact ⟨by omega, by show a + 1 < a + 5; omega⟩
      · have hp : k_pw tx (k_wo 2) a = 0 := k_pw_0 (by omega)
        unfold k_mf; rw [hp, if_pos (by decide)]; exact ⟨by omega, by show a + 0 < a + 4; omega⟩
      · have hp : k_pw tx (k_wo 3) a = 0 := k_pw_0 (by omega)
        unfold k_mf; rw [hp, if_pos (by decide)]; exact ⟨by omega, by show a + 0 < a + 4; omega⟩
      · have hp : k_pw tx (k_wo 4) a = 0 := k_pw_0 (by omega)
        unfold k_mf; rw [hp, if_pos (by decide)]; exact ⟨by omega, by show a + 0 < a + 5; omega⟩
    · have hk : k_kd tx a = 1 := by unfold k_kd; rw [if_pos e1, if_neg e2]
      have hm : a + 1 ≤ k_mx tx a := by
        unfold k_mx; rw [hk]; unfold k_mf
        have : 1 ≤ k_pw tx (k_wo 1) a := by
          show 1 ≤ k_pw tx [115, 101, 116, 58] a
          rw [k_pw_1 e1]; omega
        have hl : (k_wo 1).length = 4 := rfl
        split <;> omega
      rw [hk] at hK
      obtain rfl | rfl | rfl | rfl : K = 2 ∨ K = 3 ∨ K = 4 ∨ K = 5 := by omega
      · have hp : k_pw tx (k_wo 2) a = 0 := k_pw_0 (by omega)
        unfold k_mf; rw [hp, if_pos (by decide)]; exact ⟨by omega, by show a + 0 < a + 4; omega⟩
      · have hp : k_pw tx (k_wo 3) a = 0 := k_pw_0 (by omega)
        unfold k_mf; rw [hp, if_pos (by decide)]; exact ⟨by omega, by show a + 0 < a + 4; omega⟩
      · have hp : k_pw tx (k_wo 4) a = 0 := k_pw_0 (by omega)
        unfold k_mf; rw [hp, if_pos (by decide)]; exact ⟨by omega, by show a + 0 < a + 5; omega⟩
      · have hp : k_pw tx (k_wo 5) a = 1 := by show k_pw tx [115, 119, 97, 112, 58] a = 1; rw [k_pw_1 e1, k_pw_0 e2]
        unfold k_mf; rw [hp, if_pos (by decide)]; exact ⟨by omega, by show a + 1 < a + 7; omega⟩
  · have hz : ∀ K, 1 ≤ K → K ≤ 5 → (k_pw tx (k_wo K) a = 0 → k_mf tx K a ≤ k_mx tx a ∧ k_mf tx K a < a + k_sho K) := by
      intro K h1 h5 hp
      obtain rfl | rfl | rfl | rfl | rfl : K = 1 ∨ K = 2 ∨ K = 3 ∨ K = 4 ∨ K = 5 := by omega
      all_goals (unfold k_mf; rw [hp, if_pos (by decide)]; exact ⟨by omega, by show a + 0 < a + _; simp [k_sho]⟩)
    refine hz K h1 h5 ?_
    obtain rfl | rfl | rfl | rfl | rfl : K = 1 ∨ K = 2 ∨ K = 3 ∨ K = 4 ∨ K = 5 := by omega
    · exact k_pw_0 e1
    · refine k_pw_0 (fun e => hK ?_)
      unfold k_kd; rw [if_neg e1, if_pos e]
    · refine k_pw_0 (fun e => hK ?_)
      unfold k_kd; rw [if_neg e1, if_neg (by omega), if_pos e]
    · refine k_pw_0 (fun e => hK ?_)
      unfold k_kd; rw [if_neg e1, if_neg (by omega), if_neg (by omega)]
    · exact k_pw_0 e1
/-- the text, read on from a: where it ends or fits no more, and whether it is complete -/
def k_fr (tx : List Nat) : Nat → Nat → Nat × Bool
  | 0, a => (k_mx tx a, false)
  | n + 1, a => if k_okp tx a = true ∧ k_mx tx a < tx.length then (if k_sg tx (k_mx tx a) = 59 then k_fr tx n (k_mx tx a + 1) else (k_mx tx a, false)) else (k_mx tx a, k_okp tx a)
theorem k_mx_ge (tx : List Nat) (a : Nat) : a ≤ k_mx tx a := by unfold k_mx k_mf; split <;> omega
/-- one character of a word after another: where one is, and whether all fitted -/
def k_wt (tx : List Nat) (z : Nat) (p : Nat × Bool) : Nat × Bool := if p.2 = true ∧ k_sg tx p.1 = z then (p.1 + 1, true) else (p.1, false)
def k_wl (tx : List Nat) : List Nat → Nat × Bool → Nat × Bool
  | [], p => p
  | z :: zs, p => k_wl tx zs (k_wt tx z p)
theorem k_wl_f (tx w : List Nat) (a : Nat) : k_wl tx w (a, false) = (a, false) := by
  induction w with
  | nil => rfl
  | cons z zs ih =>
    show k_wl tx zs (k_wt tx z (a, false)) = _
    rw [show k_wt tx z (a, false) = (a, false) from if_neg (fun h => by cases h.1), ih]
theorem k_wl_t (tx w : List Nat) (a : Nat) : k_wl tx w (a, true) = (a + k_pw tx w a, decide (k_pw tx w a = w.length)) := by
  induction w generalizing a with
  | nil => rfl
  | cons z zs ih =>
    show k_wl tx zs (k_wt tx z (a, true)) = _
    by_cases h : k_sg tx a = z
    · rw [show k_wt tx z (a, true) = (a + 1, true) from if_pos ⟨rfl, h⟩, ih, k_pw_1 h]
      refine Prod.ext (by show a + 1 + _ = a + (1 + _); omega) ?_
      refine decide_eq_decide.mpr ?_
      rw [List.length_cons]; omega
    · rw [show k_wt tx z (a, true) = (a, false) from if_neg (fun hh => h hh.2), k_wl_f, k_pw_0 h]
      refine Prod.ext rfl ?_
      show false = decide (0 = (z :: zs).length)
      exact (decide_eq_false (by rw [List.length_cons]; omega)).symm
theorem k_wt_t {tx : List Nat} {z a : Nat} {o : Bool} (h1 : o = true) (h2 : k_sg tx a = z) : k_wt tx z (a, o) = (a + 1, true) := if_pos ⟨h1, h2⟩
theorem k_wt_f1 {tx : List Nat} {z a : Nat} {o : Bool} (h1 : o = false) : k_wt tx z (a, o) = (a, false) := if_neg (fun h => by rw [h1] at h; cases h.1)
theorem k_wt_f2 {tx : List Nat} {z a : Nat} {o : Bool} (h2 : ¬ k_sg tx a = z) : k_wt tx z (a, o) = (a, false) := if_neg (fun h => h2 h.2)
theorem k_in_iff {a b c : Nat} (ha : a < 2 ^ 31) (hb : b < 2 ^ 31) (hc : c < 2 ^ 31) : q_b (decide (nI a ≤ nI b ∧ nI b ≤ nI c)) = 0 ↔ ¬ (a ≤ b ∧ b ≤ c) := by
  rw [q_bd0, nI_leI ha hb, nI_leI hb hc]
/-- a letter; a number -/
def k_lp (tx : List Nat) (p : Nat × Bool) : Nat × Bool := if p.2 = true ∧ 97 ≤ k_sg tx p.1 ∧ k_sg tx p.1 ≤ 108 then (p.1 + 1, true) else (p.1, false)
theorem k_lp_t {tx : List Nat} {a : Nat} {o : Bool} (h1 : o = true) (h2 : 97 ≤ k_sg tx a ∧ k_sg tx a ≤ 108) : k_lp tx (a, o) = (a + 1, true) := if_pos ⟨h1, h2⟩
theorem k_lp_f1 {tx : List Nat} {a : Nat} {o : Bool} (h1 : o = false) : k_lp tx (a, o) = (a, false) := if_neg (fun h => by rw [h1] at h; cases h.1)
theorem k_lp_f2 {tx : List Nat} {a : Nat} {o : Bool} (h2 : ¬ (97 ≤ k_sg tx a ∧ k_sg tx a ≤ 108)) : k_lp tx (a, o) = (a, false) := if_neg (fun h => h2 h.2)
def k_nq (tx : List Nat) (lo hi : Nat) (p : Nat × Bool) : Nat × Bool := if p.2 = true ∧ 48 + lo ≤ k_sg tx p.1 ∧ k_sg tx p.1 ≤ 57 then (p.1 + k_dw tx lo hi p.1, true) else (p.1, false)
def k_nr (tx : List Nat) (lo hi : Nat) (p : Nat × Bool) : Int32 := if p.2 = true ∧ 48 + lo ≤ k_sg tx p.1 ∧ k_sg tx p.1 ≤ 57 then nI (k_nv tx hi p.1) else nI (k_sg tx p.1) - nI 48
theorem k_nq_t {tx : List Nat} {lo hi a d : Nat} {o : Bool} (h1 : o = true) (h2 : 48 + lo ≤ k_sg tx a ∧ k_sg tx a ≤ 57) (hd : k_dw tx lo hi a = d) : k_nq tx lo hi (a, o) = (a + d, true) := by
  rw [← hd]; exact if_pos ⟨h1, h2⟩
theorem k_nq_f1 {tx : List Nat} {lo hi a : Nat} {o : Bool} (h1 : o = false) : k_nq tx lo hi (a, o) = (a, false) := if_neg (fun h => by rw [h1] at h; cases h.1)
theorem k_nq_f2 {tx : List Nat} {lo hi a : Nat} {o : Bool} (h2 : ¬ (48 + lo ≤ k_sg tx a ∧ k_sg tx a ≤ 57)) : k_nq tx lo hi (a, o) = (a, false) := if_neg (fun h => h2 h.2)
theorem k_nr_t {tx : List Nat} {lo hi a d : Nat} {o : Bool} (h1 : o = true) (h2 : 48 + lo ≤ k_sg tx a ∧ k_sg tx a ≤ 57) (hd : k_nv tx hi a = d) : k_nr tx lo hi (a, o) = nI d := by
  rw [← hd]; exact if_pos ⟨h1, h2⟩
theorem k_nr_f1 {tx : List Nat} {lo hi a : Nat} {o : Bool} (h1 : o = false) : k_nr tx lo hi (a, o) = nI (k_sg tx a) - nI 48 := if_neg (fun h => by rw [h1] at h; cases h.1)
theorem k_nr_f2 {tx : List Nat} {lo hi a : Nat} {o : Bool} (h2 : ¬ (48 + lo ≤ k_sg tx a ∧ k_sg tx a ≤ 57)) : k_nr tx lo hi (a, o) = nI (k_sg tx a) - nI 48 := if_neg (fun h => h2 h.2)
theorem k_dw_1 {tx : List Nat} {lo hi i : Nat} (h : 48 + lo ≤ k_sg tx i ∧ k_sg tx i ≤ 57) (h2 : ¬ (48 < k_sg tx i ∧ (48 ≤ k_sg tx (i + 1) ∧ k_sg tx (i + 1) ≤ 57) ∧ 10 * (k_sg tx i - 48) + k_sg tx (i + 1) - 48 ≤ hi)) : k_dw tx lo hi i = 1 := by
  unfold k_dw; rw [if_pos h, if_neg h2]
theorem k_dw_2 {tx : List Nat} {lo hi i : Nat} (h : 48 + lo ≤ k_sg tx i ∧ k_sg tx i ≤ 57) (h2 : 48 < k_sg tx i ∧ (48 ≤ k_sg tx (i + 1) ∧ k_sg tx (i + 1) ≤ 57) ∧ 10 * (k_sg tx i - 48) + k_sg tx (i + 1) - 48 ≤ hi) : k_dw tx lo hi i = 2 := by
  unfold k_dw; rw [if_pos h, if_pos h2]
theorem k_dw_0 {tx : List Nat} {lo hi i : Nat} (h : ¬ (48 + lo ≤ k_sg tx i ∧ k_sg tx i ≤ 57)) : k_dw tx lo hi i = 0 := if_neg h
theorem k_nv_1 {tx : List Nat} {hi i : Nat} (h2 : ¬ (48 < k_sg tx i ∧ (48 ≤ k_sg tx (i + 1) ∧ k_sg tx (i + 1) ≤ 57) ∧ 10 * (k_sg tx i - 48) + k_sg tx (i + 1) - 48 ≤ hi)) : k_nv tx hi i = k_sg tx i - 48 := if_neg h2
theorem k_nv_2 {tx : List Nat} {hi i : Nat} (h2 : 48 < k_sg tx i ∧ (48 ≤ k_sg tx (i + 1) ∧ k_sg tx (i + 1) ≤ 57) ∧ 10 * (k_sg tx i - 48) + k_sg tx (i + 1) - 48 ≤ hi) : k_nv tx hi i = 10 * (k_sg tx i - 48) + k_sg tx (i + 1) - 48 := if_pos h2
theorem k_wt_le (tx : List Nat) (z : Nat) (p : Nat × Bool) : (k_wt tx z p).1 ≤ p.1 + 1 := by
  unfold k_wt
  split
  · exact Nat.le_refl _
  · exact Nat.le_succ _
theorem k_wl_le (tx w : List Nat) (p : Nat × Bool) : (k_wl tx w p).1 ≤ p.1 + w.length := by
  induction w generalizing p with
  | nil => exact Nat.le_refl _
  | cons z zs ih =>
    have h1 := ih (k_wt tx z p)
    have h2 := k_wt_le tx z p
    show (k_wl tx zs (k_wt tx z p)).1 ≤ p.1 + (zs.length + 1)
    omega
theorem k_look {x : Nat} (h : x < 2 ^ 31) (h1 : ¬ x = 98) (h2 : ¬ x = 102) (h3 : ¬ x = 115) : Op.lookupswitch.offset [(98, 55), (102, 41), (115, 36)] 67 (nI x).toInt = 67 := by
  rw [nI_toInt h]
  rw [Op.lookupswitch.offset_cons, if_neg (by omega), Op.lookupswitch.offset_cons, if_neg (by omega), Op.lookupswitch.offset_cons, if_neg (by omega), Op.lookupswitch.offset_nil]
/-- what was read of part j, that begins at a -/
def k_RD (tx : List Nat) (f : Nat → Int32) (j a : Nat) : Prop := f (3 * j) = nI (k_kd tx a) ∧ (k_kd tx a = 1 → f (3 * j + 1) = nI (a + 4) ∧ f (3 * j + 2) = nI (k_lw tx 60 (a + 4))) ∧ (k_kd tx a = 2 → f (3 * j + 1) = nI (k_nv tx 40 (a + 3))) ∧ (k_kd tx a = 4 → f (3 * j + 1) = nI (k_nv tx 99 (a + 4))) ∧ (k_kd tx a = 5 → f (3 * j + 1) = nI (k_sg tx (a + 5) - 97) ∧ f (3 * j + 2) = nI (k_sg tx (a + 6) - 97))
def k_RDs (tx : List Nat) (f : Nat → Int32) (ps : List Nat) : Prop := ∀ j, j < ps.length → k_RD tx f j (k_at ps j)
def k_isD (cI : ClassId) (a : Nat) (tx ps : List Nat) (w : va_W) : Prop := ∃ f : Nat → Int32, k_RDs tx f ps ∧ w = [(a, .inl (cI, 64, .inl f))]
theorem k_RDs_keep {tx ps : List Nat} {f g : Nat → Int32} (h : k_RDs tx f ps) (hg : ∀ q, q < 3 * ps.length → g q = f q) : k_RDs tx g ps := by
  intro j hj
  obtain ⟨h1, h2, h3, h4, h5⟩ := h j hj
  refine ⟨by rw [hg _ (by omega)]; exact h1, fun e => ?_, fun e => ?_, fun e => ?_, fun e => ?_⟩
  · rw [hg _ (by omega), hg _ (by omega)]; exact h2 e
  · rw [hg _ (by omega)]; exact h3 e
  · rw [hg _ (by omega)]; exact h4 e
  · rw [hg _ (by omega), hg _ (by omega)]; exact h5 e
theorem k_RDs_add {tx ps : List Nat} {f g : Nat → Int32} {a : Nat} (h : k_RDs tx f ps) (hg : ∀ q, q < 3 * ps.length → g q = f q) (hn : k_RD tx g ps.length a) : k_RDs tx g (ps ++ [a]) := by
  intro j hj
  rw [List.length_append, List.length_singleton] at hj
  by_cases e : j = ps.length
  · subst e; rw [k_at_new]; exact hn
  · rw [k_at_app (by omega)]; exact k_RDs_keep h hg j (by omega)
def k_ap (tx ps : List Nat) (a : Nat) : List Nat := if k_okp tx a = true then ps ++ [a] else ps
theorem k_ap_t {tx ps : List Nat} {a : Nat} (h : k_okp tx a = true) : k_ap tx ps a = ps ++ [a] := if_pos h
theorem k_ap_f {tx ps : List Nat} {a : Nat} (h : k_okp tx a = false) : k_ap tx ps a = ps := if_neg (by rw [h]; exact Bool.false_ne_true)
theorem k_wl_full {tx w : List Nat} {a : Nat} (h : w.length ≤ k_pw tx w a) : k_wl tx w (a, true) = (a + w.length, true) := by
  have h1 := k_pw_le tx w a
  rw [k_wl_t, show k_pw tx w a = w.length by omega, decide_eq_true rfl]
theorem k_wl_part {tx w : List Nat} {a : Nat} (h : k_pw tx w a < w.length) : k_wl tx w (a, true) = (a + k_pw tx w a, false) := by
  rw [k_wl_t, decide_eq_false (by omega)]
theorem k_mx_part {tx : List Nat} {a K : Nat} (hk : k_kd tx a = K) (hp : k_pw tx (k_wo K) a < (k_wo K).length) (hs : (k_wo K).length ≤ k_sho K) : k_mx tx a = a + k_pw tx (k_wo K) a ∧ k_okp tx a = false := by
  have h : k_mx tx a = a + k_pw tx (k_wo K) a := by unfold k_mx; rw [hk]; exact if_pos hp
  refine ⟨h, decide_eq_false ?_⟩
  rw [h, hk]; omega
theorem k_mx_full {tx : List Nat} {a K r : Nat} (hk : k_kd tx a = K) (hp : (k_wo K).length ≤ k_pw tx (k_wo K) a) (hr : k_rs tx K (a + (k_wo K).length) = r) : k_mx tx a = a + (k_wo K).length + r ∧ k_okp tx a = decide (k_sho K ≤ (k_wo K).length + r) := by
  have h : k_mx tx a = a + (k_wo K).length + r := by unfold k_mx; rw [hk, ← hr]; exact if_neg (by omega)
  refine ⟨h, ?_⟩
  unfold k_okp
  rw [h, hk]
  exact decide_eq_decide.mpr (by omega)
theorem k_lw_1 {tx : List Nat} {m i : Nat} (h : 97 ≤ k_sg tx i ∧ k_sg tx i ≤ 108) : k_lw tx (m + 1) i = 1 + k_lw tx m (i + 1) := if_pos h
theorem k_lw_0 {tx : List Nat} {m i : Nat} (h : ¬ (97 ≤ k_sg tx i ∧ k_sg tx i ≤ 108)) : k_lw tx m i = 0 := by
  cases m with
  | zero => rfl
  | succ m => exact if_neg h
theorem k_sg_pos {tx : List Nat} {i : Nat} (h : 1 ≤ k_sg tx i) : i < tx.length := by
  unfold k_sg at h
  split at h
  · assumption
  · omega
theorem k_dw_ge {tx : List Nat} {lo hi i : Nat} (h : 48 + lo ≤ k_sg tx i ∧ k_sg tx i ≤ 57) : 1 ≤ k_dw tx lo hi i ∧ k_dw tx lo hi i ≤ 2 := by
  unfold k_dw
  rw [if_pos h]
  split <;> omega
