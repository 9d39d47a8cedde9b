/-! A STATE: boxes, the box at which the case is, the line, the numbers (0 to 2 settings, 3 hand, 5 letters, 6 moved, 7 beats, 8 corrected, 9 returned, 10 and 11 the stop) -/
abbrev k_S : Type := k_Bx × Nat × List (Nat × Nat) × (Nat → Int32)
def k_isO (_cI : ClassId) (a aB aL aS : Nat) (sc : Nat → Int32) (w : va_W) : Prop := w = [(a, .inr (3, [.ref aB, .ref aL, .ref aS, .int (sc 3), .int (sc 5), .int (sc 6), .int (sc 7), .int (sc 8), .int (sc 9), .int (sc 10), .int (sc 11)]))]
def k_isA (cI : ClassId) (aS : Nat) (sc : Nat → Int32) (w : va_W) : Prop := ∃ g : Nat → Int32, (∀ i, i < 3 → g i = sc i) ∧ w = [(aS, .inl (cI, 3, .inl g))]
theorem k_isO_recv {cI : ClassId} {a aB aL aS : Nat} {sc : Nat → Int32} {w : va_W} (h : k_isO cI a aB aL aS sc w) : ∃ fs : List Value, w[0]? = some (a, .inr (3, fs)) := by
  rw [show w = _ from h]
  exact ⟨_, rfl⟩
theorem k_isO_cong {cI : ClassId} {a aB aL aS : Nat} {sc sc2 : Nat → Int32} {w : va_W} (h : k_isO cI a aB aL aS sc w) (e : ∀ k, 3 ≤ k → sc2 k = sc k) : k_isO cI a aB aL aS sc2 w := by
  unfold k_isO at h ⊢
  rw [e 3 (by decide), e 5 (by decide), e 6 (by decide), e 7 (by decide), e 8 (by decide), e 9 (by decide), e 10 (by decide), e 11 (by decide)]
  exact h
theorem k_isA_upd {cI : ClassId} {aS : Nat} {sc : Nat → Int32} {w : va_W} {k : Nat} {v : Int32} (h : k_isA cI aS sc w) (hk : 3 ≤ k) : k_isA cI aS (upd sc k v) w := by
  obtain ⟨g, hg, rfl⟩ := h
  exact ⟨g, fun i hi => by rw [pk_un (by omega)]; exact hg i hi, rfl⟩
/-- how many beats pass behind a letter -/
def k_n1 (sc : Nat → Int32) : Nat := (sc 1).toNatClampNeg
def k_psc (bx : k_Bx) (a : Nat) (sc : Nat → Int32) (n : Nat) : Nat → Int32 := upd (upd sc 7 (sc 7 + nI n)) 6 (sc 6 + nI (k_cnt (k_bm bx a (sc 3)) n))
def k_pass (S : k_S) (n : Nat) : k_S := ((k_bs S.1 S.2.1 (S.2.2.2 3) n).1, (k_bs S.1 S.2.1 (S.2.2.2 3) n).2, S.2.2.1, k_psc S.1 S.2.1 S.2.2.2 n)
def k_set (S : k_S) (c : Nat) : k_S := k_pass (k_drop S.1 c, S.2.1, S.2.2.1 ++ [(k_x S.1 c, c)], upd (upd S.2.2.2 5 (S.2.2.2 5 + nI 1)) 3 (nI c)) (k_n1 S.2.2.2)
def k_rest (S : k_S) (n : Nat) : k_S := k_pass (S.1, S.2.1, S.2.2.1, upd S.2.2.2 3 (-1)) n
theorem q_add0 (x : Int32) : x = x + nI 0 := by rw [nI_0, Int32.add_zero]
theorem q_accs {x z : Int32} {i : Nat} (h : z = x + nI i) : z + nI 1 = x + nI (i + 1) := by rw [h, Int32.add_assoc, nI_add]
/-- why a letter cannot be set -/
def k_wn (bx : k_Bx) (ln : List (Nat × Nat)) (sc : Nat → Int32) (c : Nat) : Nat := if (bx c).length = 0 then 1 else if nI (k_np ln + k_wd (k_x bx c)) ≤ sc 0 then 0 else 2
theorem k_wn_1 {bx : k_Bx} {ln : List (Nat × Nat)} {sc : Nat → Int32} {c : Nat} (h : (bx c).length = 0) : k_wn bx ln sc c = 1 := if_pos h
theorem k_wn_0 {bx : k_Bx} {ln : List (Nat × Nat)} {sc : Nat → Int32} {c : Nat} (h : 0 < (bx c).length) (h2 : nI (k_np ln + k_wd (k_x bx c)) ≤ sc 0) : k_wn bx ln sc c = 0 := by
  unfold k_wn; rw [if_neg (by omega), if_pos h2]
theorem k_wn_2 {bx : k_Bx} {ln : List (Nat × Nat)} {sc : Nat → Int32} {c : Nat} (h : 0 < (bx c).length) (h2 : ¬ nI (k_np ln + k_wd (k_x bx c)) ≤ sc 0) : k_wn bx ln sc c = 2 := by
  unfold k_wn; rw [if_neg (by omega), if_neg h2]
theorem k_wn_le (bx : k_Bx) (ln : List (Nat × Nat)) (sc : Nat → Int32) (c : Nat) : k_wn bx ln sc c ≤ 2 := by
  unfold k_wn; split
  · omega
  · split <;> omega
/-- the box to which the type of a place goes -/
def k_bb (ln : List (Nat × Nat)) (sc : Nat → Int32) (p : Nat) : Nat := if sc 2 = nI 1 then (k_la ln p).2 else (k_la ln p).1
theorem k_bb_1 {ln : List (Nat × Nat)} {sc : Nat → Int32} {p : Nat} (h : sc 2 = nI 1) : k_bb ln sc p = (k_la ln p).2 := if_pos h
theorem k_bb_0 {ln : List (Nat × Nat)} {sc : Nat → Int32} {p : Nat} (h : ¬ sc 2 = nI 1) : k_bb ln sc p = (k_la ln p).1 := if_neg h
theorem k_bb_lt {ln : List (Nat × Nat)} {sc : Nat → Int32} {p : Nat} (h : k_Lok ln) (hp : p < ln.length) : k_bb ln sc p < 12 := by
  unfold k_bb; split
  · exact (k_la_lt h hp).2
  · exact (k_la_lt h hp).1
theorem k_rt_lt {bx : k_Bx} {b k : Nat} (h : k_rt bx b = some k) : k < (bx b).length ∧ k_at (bx b) k = b := by
  obtain ⟨h1, h2⟩ := k_last_lt h
  exact ⟨h1, by simpa using h2⟩
theorem k_dp_m1 {bx : k_Bx} {b : Nat} (hl : (bx b).length ≤ 20) : k_dp bx b = -1 ↔ k_rt bx b = none := by
  cases h : k_rt bx b with
  | none => simp [k_dp_none h]
  | some k =>
    rw [k_dp_some h, q_m1 (by omega)]
    simp
/-- why a place cannot be corrected -/
def k_wc (bx : k_Bx) (ln : List (Nat × Nat)) (sc : Nat → Int32) (p : Nat) : Nat := if (k_la ln p).1 = (k_la ln p).2 then 3 else if k_rt bx (k_la ln p).2 = none then 4 else if (bx (k_bb ln sc p)).length < 20 then 0 else 5
theorem k_wc_3 {bx : k_Bx} {ln : List (Nat × Nat)} {sc : Nat → Int32} {p : Nat} (h : (k_la ln p).1 = (k_la ln p).2) : k_wc bx ln sc p = 3 := if_pos h
theorem k_wc_4 {bx : k_Bx} {ln : List (Nat × Nat)} {sc : Nat → Int32} {p : Nat} (h : ¬ (k_la ln p).1 = (k_la ln p).2) (h2 : k_rt bx (k_la ln p).2 = none) : k_wc bx ln sc p = 4 := by
  unfold k_wc; rw [if_neg h, if_pos h2]
theorem k_wc_0 {bx : k_Bx} {ln : List (Nat × Nat)} {sc : Nat → Int32} {p : Nat} (h : ¬ (k_la ln p).1 = (k_la ln p).2) (h2 : ¬ k_rt bx (k_la ln p).2 = none) (h3 : (bx (k_bb ln sc p)).length < 20) : k_wc bx ln sc p = 0 := by
  unfold k_wc; rw [if_neg h, if_neg h2, if_pos h3]
theorem k_wc_5 {bx : k_Bx} {ln : List (Nat × Nat)} {sc : Nat → Int32} {p : Nat} (h : ¬ (k_la ln p).1 = (k_la ln p).2) (h2 : ¬ k_rt bx (k_la ln p).2 = none) (h3 : ¬ (bx (k_bb ln sc p)).length < 20) : k_wc bx ln sc p = 5 := by
  unfold k_wc; rw [if_neg h, if_neg h2, if_neg h3]
theorem k_wc_inv {bx : k_Bx} {ln : List (Nat × Nat)} {sc : Nat → Int32} {p : Nat} (h : k_wc bx ln sc p = 0) : ¬ (k_la ln p).1 = (k_la ln p).2 ∧ (∃ k, k_rt bx (k_la ln p).2 = some k) ∧ (bx (k_bb ln sc p)).length < 20 := by
  unfold k_wc at h
  split at h
  · omega
  · split at h
    · omega
    · split at h
      · rename_i h1 h2 h3
        refine ⟨h1, ?_, h3⟩
        cases e : k_rt bx (k_la ln p).2 with
        | none => exact absurd e h2
        | some k => exact ⟨k, rfl⟩
      · omega
theorem k_wc_le (bx : k_Bx) (ln : List (Nat × Nat)) (sc : Nat → Int32) (p : Nat) : k_wc bx ln sc p ≤ 5 := by
  unfold k_wc; split
  · omega
  · split
    · omega
    · split <;> omega
theorem k_last_ge {p q : Nat → Bool} {n k : Nat} (h : k_last p n = some k) (hq : q k = true) (m : Nat) (hm : n ≤ m) : ∃ j, k_last q m = some j := by
  induction m with
  | zero => have := k_last_lt h; omega
  | succ m ih =>
    cases e : q m with
    | true => exact ⟨m, k_last_t e⟩
    | false =>
      rw [k_last_f e]
      by_cases e2 : n ≤ m
      · exact ih e2
      · have h3 : n = m + 1 := by omega
        subst h3
        have h1 := k_last_lt h
        have h4 : k ≠ m := fun z => by rw [z] at hq; rw [hq] at e; cases e
        have : ∀ r, k < r → ∃ j, k_last q r = some j := by
          intro r
          induction r with
          | zero => intro z; omega
          | succ r ihr =>
            intro hr
            cases e5 : q r with
            | true => exact ⟨r, k_last_t e5⟩
            | false =>
              rw [k_last_f e5]
              exact ihr (by have : k ≠ r := fun z => by rw [z] at hq; rw [hq] at e5; cases e5
                            omega)
        exact this m (by omega)
theorem k_rt_put {bx : k_Bx} {b x c k : Nat} (h : k_rt bx c = some k) : ∃ j, k_rt (k_put bx b x) c = some j := by
  obtain ⟨h1, h2⟩ := k_rt_lt h
  unfold k_rt at h ⊢
  by_cases e : c = b
  · subst e
    rw [k_put_s]
    exact k_last_ge h (by rw [k_at_app h1]; simpa using h2) _ (by simp)
  · rw [k_put_n e]; exact ⟨k, h⟩
/-- to correct a place -/
def k_cb (bx : k_Bx) (ln : List (Nat × Nat)) (sc : Nat → Int32) (p : Nat) : k_Bx := k_put bx (k_bb ln sc p) (k_la ln p).1
def k_cor (S : k_S) (p : Nat) : k_S := (k_cut (k_cb S.1 S.2.2.1 S.2.2.2 p) (k_la S.2.2.1 p).2 ((k_rt (k_cb S.1 S.2.2.1 S.2.2.2 p) (k_la S.2.2.1 p).2).getD 0), S.2.1, k_rep S.2.2.1 p (k_la S.2.2.1 p).2, upd (upd S.2.2.2 8 (S.2.2.2 8 + nI 1)) 3 (-1))
/-- how many of the first n places go to box b, when the line is returned -/
def k_rc (ln : List (Nat × Nat)) (sc : Nat → Int32) (b n : Nat) : Nat := k_cnt (fun p => k_bb ln sc p == b) n
def k_wy (bx : k_Bx) (ln : List (Nat × Nat)) (sc : Nat → Int32) : Nat := if k_first (fun b => decide (20 < (bx b).length + k_rc ln sc b ln.length)) 12 < 12 then 6 else 0
theorem k_wy_0 {bx : k_Bx} {ln : List (Nat × Nat)} {sc : Nat → Int32} (h : ∀ b, b < 12 → (bx b).length + k_rc ln sc b ln.length ≤ 20) : k_wy bx ln sc = 0 := by
  unfold k_wy
  rw [k_first_no (fun u hu => decide_eq_false (by have := h u hu; omega))]
  rfl
theorem k_wy_6 {bx : k_Bx} {ln : List (Nat × Nat)} {sc : Nat → Int32} {b : Nat} (hb : b < 12) (h : 20 < (bx b).length + k_rc ln sc b ln.length) (h2 : ∀ u, u < b → (bx u).length + k_rc ln sc u ln.length ≤ 20) : k_wy bx ln sc = 6 := by
  unfold k_wy
  rw [k_first_eq (p := fun b => decide (20 < (bx b).length + k_rc ln sc b ln.length)) hb (decide_eq_true h) (fun u hu => decide_eq_false (by have := h2 u hu; omega)), if_pos hb]
theorem k_first_all {p : Nat → Bool} {n : Nat} (h : ¬ k_first p n < n) : ∀ u, u < n → p u = false := by
  induction n with
  | zero => intro u hu; omega
  | succ n ih =>
    simp only [k_first] at h
    intro u hu
    by_cases e : k_first p n < n
    · rw [if_pos e] at h; omega
    · rw [if_neg e] at h
      cases e2 : p n with
      | true => rw [e2] at h; simp at h
      | false =>
        by_cases e3 : u = n
        · rw [e3]; exact e2
        · exact ih e u (by omega)
theorem k_wy_inv {bx : k_Bx} {ln : List (Nat × Nat)} {sc : Nat → Int32} (h : k_wy bx ln sc = 0) : ∀ b, b < 12 → (bx b).length + k_rc ln sc b ln.length ≤ 20 := by
  unfold k_wy at h
  intro b hb
  by_cases e : k_first (fun b => decide (20 < (bx b).length + k_rc ln sc b ln.length)) 12 < 12
  · rw [if_pos e] at h; omega
  · have := of_decide_eq_false (k_first_all e b hb)
    omega
/-- the boxes, when j types of the line are put back, from the last one on -/
def k_rb (bx : k_Bx) (ln : List (Nat × Nat)) (sc : Nat → Int32) : Nat → k_Bx
  | 0 => bx
  | j + 1 => k_put (k_rb bx ln sc j) (k_bb ln sc (ln.length - 1 - j)) (k_la ln (ln.length - 1 - j)).1
theorem k_rb_len (bx : k_Bx) (ln : List (Nat × Nat)) (sc : Nat → Int32) (b j : Nat) : (k_rb bx ln sc j b).length = (bx b).length + k_cnt (fun i => k_bb ln sc (ln.length - 1 - i) == b) j := by
  induction j with
  | zero => rfl
  | succ j ih =>
    simp only [k_rb]
    by_cases e : b = k_bb ln sc (ln.length - 1 - j)
    · rw [k_cnt_t (by simp [e])]
      subst e
      rw [k_put_s, List.length_append, ih, List.length_singleton]
      omega
    · rw [k_cnt_f (by simpa using fun z => e z.symm), k_put_n e, ih]
theorem k_cnt_mono (p : Nat → Bool) {m n : Nat} (h : m ≤ n) : k_cnt p m ≤ k_cnt p n := by
  induction n with
  | zero => have : m = 0 := by omega
            subst this; exact Nat.le_refl _
  | succ n ih =>
    by_cases e : m = n + 1
    · subst e; exact Nat.le_refl _
    · have := ih (by omega)
      simp only [k_cnt]; omega
theorem k_rb_room {bx : k_Bx} {ln : List (Nat × Nat)} {sc : Nat → Int32} {j : Nat} (h : k_wy bx ln sc = 0) (hok : k_Lok ln) (hj : j < ln.length) : (k_rb bx ln sc j (k_bb ln sc (ln.length - 1 - j))).length < 20 := by
  have h1 := k_wy_inv h (k_bb ln sc (ln.length - 1 - j)) (k_bb_lt hok (by omega))
  rw [k_rb_len]
  have h2 := k_cnt_mono (fun i => k_bb ln sc (ln.length - 1 - i) == k_bb ln sc (ln.length - 1 - j)) (show j + 1 ≤ ln.length by omega)
  rw [k_cnt_t (by simp)] at h2
  rw [k_cnt_rev (fun p => k_bb ln sc p == k_bb ln sc (ln.length - 1 - j))] at h2
  unfold k_rc at h1
  omega
def k_ret (S : k_S) : k_S := (k_rb S.1 S.2.2.1 S.2.2.2 S.2.2.1.length, S.2.1, [], upd (upd S.2.2.2 9 (S.2.2.2 9 + nI 1)) 3 (-1))
def k_xch (S : k_S) (b o : Nat) : k_S := (k_ex S.1 b o, S.2.1, S.2.2.1, upd S.2.2.2 3 (-1))
def k_ws (bx : k_Bx) (ln : List (Nat × Nat)) : Nat := k_sum (fun x => 6 - k_cn bx x x - k_cl ln x) 12
/-- the place ahead of n: n - 1, or -1 -/
def k_pl (n : Nat) : Int32 := nI n - nI 1
theorem k_pl_0 : k_pl 0 = -1 := by decide
theorem k_pl_s {n : Nat} (h : 1 ≤ n) : k_pl n = nI (n - 1) := q_nsub h rfl
theorem k_pl_lt {n : Nat} (h : n < 2 ^ 31) : k_pl n < 0 ↔ n = 0 := by
  by_cases e : n = 0
  · subst e; rw [k_pl_0]; decide
  · rw [k_pl_s (by omega), q_lt0 (by omega)]; simp [e]
theorem k_pl_dec (n : Nat) : nI n + Int32.ofInt (-1) = k_pl n := by
  rw [show Int32.ofInt (-1) = -nI 1 by decide, ← Int32.sub_eq_add_neg]; rfl

