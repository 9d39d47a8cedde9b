/-! More of the model in lists and numbers -/
theorem k_cut_top {bx : k_Bx} {b : Nat} (h : 0 < (bx b).length) : k_cut bx b ((bx b).length - 1) = k_drop bx b := by
  unfold k_cut k_drop
  rw [List.eraseIdx_length_sub_one]
theorem k_np_split (ln : List (Nat × Nat)) : k_np ln = k_sum (fun i => k_wd (k_la ln i).1) ln.length + ln.length := by
  unfold k_np
  have : ∀ n, k_sum (fun i => k_wd (k_la ln i).1 + 1) n = k_sum (fun i => k_wd (k_la ln i).1) n + n := by
    intro n
    induction n with
    | zero => rfl
    | succ n ih => rw [k_sum_s, k_sum_s, ih]; omega
  exact this _
def k_rv (o : Option Nat) : Int32 := match o with
  | some k => nI k
  | none => -1
theorem k_rv_none : k_rv none = -1 := rfl
theorem k_rv_some {k : Nat} : k_rv (some k) = nI k := rfl
theorem k_rv_m1 {bx : k_Bx} {b : Nat} (hl : (bx b).length ≤ 20) : k_rv (k_rt bx b) = -1 ↔ k_rt bx b = none := by
  cases h : k_rt bx b with
  | none => simp [k_rv_none]
  | some k =>
    have := (k_rt_lt h).1
    rw [k_rv_some, q_m1 (by omega)]
    simp
theorem k_na_mod {a : Nat} (h : a < 12) : (if a + 1 < 12 then a + 1 else 0) = (a + 1) % 12 := by
  split <;> omega
/-- the numbers behind one beat -/
def k_bsc (sc : Nat → Int32) (mv : Bool) : Nat → Int32 := upd (if mv = true then upd sc 6 (sc 6 + nI 1) else sc) 7 (sc 7 + nI 1)
theorem k_psc_0 {bx : k_Bx} {a : Nat} {sc : Nat → Int32} : k_psc bx a sc 0 = sc := by
  funext j
  unfold k_psc
  rw [k_cnt_0, ← q_add0, ← q_add0]
  by_cases e : j = 6
  · subst e; rw [pk_us]
  · rw [pk_un e]
    by_cases e2 : j = 7
    · subst e2; rw [pk_us]
    · rw [pk_un e2]
theorem k_psc_3 {bx : k_Bx} {a : Nat} {sc : Nat → Int32} {n : Nat} : k_psc bx a sc n 3 = sc 3 := by
  unfold k_psc
  rw [pk_un (by decide), pk_un (by decide)]
theorem k_psc_s {bx : k_Bx} {a : Nat} {sc : Nat → Int32} {n : Nat} : k_bsc (k_psc bx a sc n) (k_mv (k_bs bx a (sc 3) n).1 (k_bs bx a (sc 3) n).2 (sc 3)) = k_psc bx a sc (n + 1) := by
  funext j
  have e0 : k_mv (k_bs bx a (sc 3) n).1 (k_bs bx a (sc 3) n).2 (sc 3) = k_bm bx a (sc 3) n := rfl
  rw [e0]
  unfold k_bsc k_psc
  by_cases e2 : j = 7
  · subst e2
    rw [pk_us, pk_un (show (7 : Nat) ≠ 6 by decide), pk_us, pk_un (show (7 : Nat) ≠ 6 by decide), pk_us, Int32.add_assoc, nI_add]
  · rw [pk_un e2]
    by_cases e : j = 6
    · subst e
      rw [pk_us]
      cases hm : k_bm bx a (sc 3) n with
      | true => rw [if_pos rfl, pk_us, pk_us, k_cnt_t hm, Int32.add_assoc, nI_add]
      | false => rw [if_neg (by decide), pk_us, k_cnt_f hm, pk_us]
    · rw [pk_un e, pk_un e2]
      split
      · rw [pk_un e, pk_un e, pk_un e2]
      · rw [pk_un e, pk_un e2]
theorem k_has_pl {ln : List (Nat × Nat)} {v : Int32} (h : ln.length ≤ 40) : decide ((0 : Int32) ≤ v ∧ v ≤ k_pl ln.length) = k_has ln v := by
  unfold k_has
  refine decide_eq_decide.mpr (and_congr_right fun h0 => ?_)
  obtain ⟨j, hj, rfl⟩ := nI_of (x := v) (by rw [Int32.not_lt]; exact h0)
  by_cases e : ln.length = 0
  · rw [e, k_pl_0, nI_0, q_lt0 hj]
    refine ⟨fun z => ?_, False.elim⟩
    have h1 := Int32.le_iff_toInt_le.mp z
    rw [nI_toInt hj] at h1
    have h2 : (-1 : Int32).toInt = -1 := by decide
    omega
  · rw [k_pl_s (by omega), nI_leI hj (by omega), nI_ltI hj (by omega)]
    omega
theorem k_ex_00 {bx : k_Bx} {b o : Nat} (h : ¬ b = o) (h1 : (bx b).length = 0) (h2 : (bx o).length = 0) : k_ex bx b o = bx := by
  unfold k_ex k_e2
  rw [if_neg h, if_neg (by omega), if_neg (by omega), k_drop_0 h1, k_drop_0 h2]
theorem k_ex_10 {bx : k_Bx} {b o : Nat} (h : ¬ b = o) (h1 : 0 < (bx b).length) (h2 : (bx o).length = 0) : k_ex bx b o = k_put (k_drop bx b) o (k_x bx b) := by
  unfold k_ex k_e2
  rw [if_neg h, if_neg (by omega), if_pos h1, k_drop_0 (bx := k_drop bx b) (by rw [k_drop_n (fun z => h z.symm)]; exact h2)]
theorem k_ex_01 {bx : k_Bx} {b o : Nat} (h : ¬ b = o) (h1 : (bx b).length = 0) (h2 : 0 < (bx o).length) : k_ex bx b o = k_put (k_drop bx o) b (k_x bx o) := by
  unfold k_ex k_e2
  rw [if_neg h, if_pos h2, if_neg (by omega), k_drop_0 h1]
theorem k_ex_11 {bx : k_Bx} {b o : Nat} (h : ¬ b = o) (h1 : 0 < (bx b).length) (h2 : 0 < (bx o).length) : k_ex bx b o = k_put (k_put (k_drop (k_drop bx b) o) o (k_x bx b)) b (k_x (k_drop bx b) o) := by
  have e : k_x (k_drop bx b) o = k_x bx o := by unfold k_x; rw [k_drop_n (fun z => h z.symm)]
  rw [e]
  unfold k_ex k_e2
  rw [if_neg h, if_pos h2, if_pos h1]
theorem k_wy_iff {bx : k_Bx} {ln : List (Nat × Nat)} {sc : Nat → Int32} {z : Bool} (h : z = true ↔ ∀ b, b < 12 → (bx b).length + k_rc ln sc b ln.length ≤ 20) : z = decide (k_wy bx ln sc = 0) := by
  rw [Bool.eq_iff_iff, h, decide_eq_true_iff]
  exact ⟨k_wy_0, k_wy_inv⟩
theorem k_b12 {c : Nat} (h : c < 12) : (0 : Int32) ≤ nI c ∧ nI c ≤ 11 := ⟨nI_pos' (by omega), by rw [show (11 : Int32) = nI 11 by decide, nI_leI (by omega) (by decide)]; omega⟩
