/-! WHAT THE LAW OF THE PROPERTY LOOKS AT: what is told of a case; a letter that is set; an act by two cells -/
theorem k_has_of {ln : List (Nat × Nat)} {k : Nat} (hl : ln.length ≤ 40) (h : k < ln.length) : k_has ln (nI k) = true := by
  rw [k_has_n hl (by omega)]
  exact decide_eq_true h
theorem k_nw_sav (sv : List k_S) (S : k_S) : k_nw (k_sav sv S) = S := by
  unfold k_nw k_sav
  simp [List.getLastD_eq_getLast?]
theorem k_sav_dl {sv : List k_S} {S : k_S} (h : sv.length ≤ 5) : (k_sav sv S).dropLast = sv := by
  unfold k_sav
  rw [if_neg (by omega), List.dropLast_concat]
theorem k_sav_le {sv : List k_S} {S : k_S} (h : sv.length ≤ 5) : (k_sav sv S).length = sv.length + 1 := k_sav_n (by omega)
/-- what the law's own hash of a case is -/
def k_h2 (bx : k_Bx) (h : Int64) : Nat → Int64
  | 0 => h
  | b + 1 => k_hf (fun d => k_top bx b d) (k_h2 bx h b) (bx b).length
def k_h3 (ln : List (Nat × Nat)) (h : Int64) : Nat → Int64
  | 0 => h
  | k + 1 => 31 * (31 * k_h3 ln h k + (nI (k_la ln k).1).toInt64) + (nI (k_la ln k).2).toInt64
def k_told (S : k_S) : Int64 := k_h3 S.2.2.1 (k_h2 S.1 (k_hf (k_tc S.1 S.2.1 S.2.2.1 S.2.2.2 0) 3 17) 12) S.2.2.1.length
theorem k_hf17 (bx : k_Bx) (at0 : Nat) (ln : List (Nat × Nat)) (sc : Nat → Int32) (m : Nat) : k_hf (k_tc bx at0 ln sc m) 3 17 = k_hf (k_tc bx at0 ln sc 0) 3 17 := by
  simp only [k_hf, k_tc]
/-! a letter that is set: its box has one type less -/
theorem k_set_len {S : k_S} {c : Nat} (h : k_Sok S) (hc : c < 12) : ((k_set S c).1 c).length = (S.1 c).length - 1 := by
  show ((k_bs (k_drop S.1 c) S.2.1 ((upd (upd S.2.2.2 5 (S.2.2.2 5 + nI 1)) 3 (nI c)) 3) (k_n1 S.2.2.2)).1 c).length = _
  rw [pk_us, k_bs_far (k_Bok_drop h.2.1) h.1 hc, k_drop_s, List.length_dropLast]
theorem k_set_3 (S : k_S) (c : Nat) : (k_set S c).2.2.2 3 = nI c := by
  show k_psc (k_drop S.1 c) S.2.1 (upd (upd S.2.2.2 5 (S.2.2.2 5 + nI 1)) 3 (nI c)) (k_n1 S.2.2.2) 3 = _
  unfold k_psc
  rw [pk_un (by decide), pk_un (by decide), pk_us]
theorem k_set_7 (S : k_S) (c : Nat) : (k_set S c).2.2.2 7 = S.2.2.2 7 + nI (k_n1 S.2.2.2) := by
  show k_psc (k_drop S.1 c) S.2.1 (upd (upd S.2.2.2 5 (S.2.2.2 5 + nI 1)) 3 (nI c)) (k_n1 S.2.2.2) 7 = _
  unfold k_psc
  rw [pk_un (by decide), pk_us, pk_un (by decide), pk_un (by decide)]
/-! sums over the boxes -/
theorem k_st_wr {bx : k_Bx} (hok : k_Bok bx) : k_sum (fun x => k_st bx x) 12 = k_wr bx := by
  have h1 : k_sum (fun x => k_st bx x) 12 = k_sum (fun b => k_sum (fun x => if b = x then 0 else k_cn bx b x) 12) 12 := by
    unfold k_st
    exact k_sum_swap (fun x b => if b = x then 0 else k_cn bx b x) 12 12
  rw [h1]
  unfold k_wr
  refine k_sum_cong (fun b hb => ?_)
  have h2 := k_sum_up (f := fun x => if b = x then 0 else k_cn bx b x) (g := fun x => k_cn bx b x) (b := b) (n := 12) (fun j _ hj => if_neg (fun z => hj z.symm)) hb
  have h3 : k_sum (fun x => k_cn bx b x) 12 = (bx b).length := by
    rw [k_sum_cong (g := fun x => (bx b).count x) (fun x _ => k_cn_count bx b x)]
    exact k_len_count _ (hok b hb).2
  have h4 := k_wi_eq bx b
  simp only [if_pos] at h2
  rw [h3] at h2
  show _ = k_wi bx b
  omega
theorem k_ty72 {S : k_S} (hok : k_Bok S.1) (hl : k_Lok S.2.2.1) (h : k_Cv S) : k_ty S.1 + S.2.2.1.length = 72 := by
  have h1 : k_sum (fun x => k_lc S.2.2.1 x) 12 = S.2.2.1.length := by
    have h2 := k_len_count (S.2.2.1.map Prod.fst) (fun x hx => by
      obtain ⟨q, hq, rfl⟩ := List.mem_map.mp hx
      exact (hl.2 q hq).1)
    rw [List.length_map] at h2
    exact h2
  rw [k_ty_tot hok, ← h1, ← k_sum_add, k_sum_cong (g := fun _ => 6) (fun x hx => h x hx)]
  rfl
theorem k_cnt_box (bx : k_Bx) (b x : Nat) : k_cnt (fun d => k_at (bx b) ((bx b).length - 1 - d) == x) (bx b).length = (bx b).count x := (k_cnt_rev (fun i => k_at (bx b) i == x) (bx b).length).trans (k_cnt_count x (bx b))
theorem k_cnt_own (bx : k_Bx) (b : Nat) : k_cnt (fun d => k_at (bx b) ((bx b).length - 1 - d) != b) (bx b).length = k_wi bx b := k_cnt_rev (fun i => k_at (bx b) i != b) (bx b).length
theorem k_wn_not1 {bx : k_Bx} {ln : List (Nat × Nat)} {sc : Nat → Int32} {c : Nat} (h : 0 < (bx c).length) : ¬ k_wn bx ln sc c = 1 := by
  unfold k_wn
  rw [if_neg (by omega)]
  split <;> omega
theorem k_wc_not3 {bx : k_Bx} {ln : List (Nat × Nat)} {sc : Nat → Int32} {p : Nat} (h : ¬ (k_la ln p).1 = (k_la ln p).2) : ¬ k_wc bx ln sc p = 3 := by
  unfold k_wc
  rw [if_neg h]
  split
  · omega
  · split <;> omega
/-! numbers out of two cells -/
def k_low (v : Int32) (n : Nat) : Nat := v.toBitVec.toNat % 2147483648 % n
theorem k_low_lt {v : Int32} {n : Nat} (h : 0 < n) : k_low v n < n := Nat.mod_lt _ h
def k_b20 (w : Int32) : Nat := (w >>> 20).toBitVec.toNat % 2
theorem k_b20_lt (w : Int32) : k_b20 w < 2 := Nat.mod_lt _ (by decide)
def k_let (w : Int32) : Nat := k_low w (if k_b20 w = 0 then 4 else 12)
theorem k_let_lt (w : Int32) : k_let w < 12 := by
  unfold k_let
  split
  · have := k_low_lt (v := w) (n := 4) (by decide)
    omega
  · exact k_low_lt (by decide)
def k_idl (w : Int32) : Nat := 1 + k_low w (if k_b20 w = 0 then 5 else 60)
theorem k_idl_le (w : Int32) : 1 ≤ k_idl w ∧ k_idl w ≤ 99 := by
  unfold k_idl
  split
  · have := k_low_lt (v := w) (n := 5) (by decide)
    omega
  · have := k_low_lt (v := w) (n := 60) (by decide)
    omega
def k_jj (v : Int32) : Nat := v.toBitVec.toNat % 16
theorem k_jj_lt (v : Int32) : k_jj v < 16 := Nat.mod_lt _ (by decide)
def k_chv (w : Int32) : Nat → Nat
  | 0 => 20 + k_low (w >>> 2) 101
  | 1 => k_low (w >>> 2) 5
  | _ => (w >>> 2).toBitVec.toNat % 2
theorem k_chv_ok (w : Int32) (i : Nat) (hi : i < 3) : k_lo i ≤ nI (k_chv w i) ∧ nI (k_chv w i) ≤ k_hi i := by
  obtain rfl | rfl | rfl : i = 0 ∨ i = 1 ∨ i = 2 := by omega
  · have h := k_low_lt (v := w >>> 2) (n := 101) (by decide)
    show nI 20 ≤ nI (20 + k_low (w >>> 2) 101) ∧ nI (20 + k_low (w >>> 2) 101) ≤ nI 120
    rw [nI_leI (by omega) (by omega), nI_leI (by omega) (by omega)]
    omega
  · have h := k_low_lt (v := w >>> 2) (n := 5) (by decide)
    show nI 0 ≤ nI (k_low (w >>> 2) 5) ∧ nI (k_low (w >>> 2) 5) ≤ nI 9
    rw [nI_leI (by omega) (by omega), nI_leI (by omega) (by omega)]
    omega
  · have h := Nat.mod_lt (w >>> 2).toBitVec.toNat (show 0 < 2 by decide)
    show nI 0 ≤ nI ((w >>> 2).toBitVec.toNat % 2) ∧ nI ((w >>> 2).toBitVec.toNat % 2) ≤ nI 1
    rw [nI_leI (by omega) (by omega), nI_leI (by omega) (by omega)]
    omega
theorem k_chv_lt (w : Int32) (i : Nat) : k_chv w i < 121 := by
  unfold k_chv
  split
  · have := k_low_lt (v := w >>> 2) (n := 101) (by decide)
    omega
  · have := k_low_lt (v := w >>> 2) (n := 5) (by decide)
    omega
  · have := Nat.mod_lt (w >>> 2).toBitVec.toNat (show 0 < 2 by decide)
    omega
def k_chs (S : k_S) (i : Nat) (v : Int32) : k_S := (S.1, S.2.1, S.2.2.1, upd (upd S.2.2.2 3 (-1)) i v)
/-! an act: its answer and the case behind it; none, if none was made -/
def k_act (S N : k_S) (v w : Int32) : Option (Int32 × k_S) :=
  if k_jj v < 6 then (if k_wn S.1 S.2.2.1 S.2.2.2 (k_let w) = 0 then some (nI (k_x S.1 (k_let w)), k_set S (k_let w)) else none)
  else if k_jj v < 8 then some (nI (k_cnt (k_bm S.1 S.2.1 (-1)) (k_idl w)), k_rest S (k_idl w))
  else if k_jj v < 10 then
    (if S.2.2.1.length = 0 then none
     else if k_wc S.1 S.2.2.1 S.2.2.2 (k_low w S.2.2.1.length) = 0 then some (nI (k_er (k_rep S.2.2.1 (k_low w S.2.2.1.length) (k_la S.2.2.1 (k_low w S.2.2.1.length)).2)), k_cor S (k_low w S.2.2.1.length)) else none)
  else if k_jj v = 10 then
    (if 8 < S.2.2.1.length then none
     else if w.toBitVec.toNat % 2 = 0 then (if k_wy S.1 S.2.2.1 S.2.2.2 = 0 then some (nI (k_wr (k_rb S.1 S.2.2.1 S.2.2.2 S.2.2.1.length)), k_ret S) else none)
     else some (nI N.2.2.1.length, N))
  else if k_jj v = 11 then some (S.2.2.2 (k_low w 3), k_chs S (k_low w 3) (nI (k_chv w (k_low w 3))))
  else some (nI (k_wr (k_ex S.1 (k_low w 12) (k_low (w >>> 4) 12))), k_xch S (k_low w 12) (k_low (w >>> 4) 12))
def k_aR (o : Option (Int32 × k_S)) : Int32 := match o with
  | none => -9
  | some q => q.1
def k_aS (S : k_S) (o : Option (Int32 × k_S)) : k_S := match o with
  | none => S
  | some q => q.2
def k_aV (sv : List k_S) (S : k_S) (o : Option (Int32 × k_S)) : List k_S := match o with
  | none => sv
  | some _ => k_sav sv S
/-- what goes on holding, with the third setting too -/
def k_Jv (S : k_S) : Prop := k_Iv S ∧ (S.2.2.2 2 = nI 0 ∨ S.2.2.2 2 = nI 1)
theorem k_Jv_0 : k_Jv k_S0 := ⟨k_Iv_0, Or.inr rfl⟩
theorem k_not9 {n : Nat} (h : n < 2 ^ 31) : nI n ≠ -9 := by
  intro z
  have h1 := nI_toInt h
  rw [z] at h1
  have h2 : (-9 : Int32).toInt = -9 := by decide
  omega
theorem k_wr_le {bx : k_Bx} (h : k_Bok bx) : k_wr bx ≤ 240 := Nat.le_trans (k_wr_ty bx) (k_ty_le h)
theorem k_sc_rest (S : k_S) (n i : Nat) (hi : i < 3) : (k_rest S n).2.2.2 i = S.2.2.2 i := by
  show upd (upd _ 7 _) 6 _ i = _
  rw [pk_un (by omega), pk_un (by omega)]
  show upd S.2.2.2 3 (-1) i = _
  rw [pk_un (by omega)]
theorem k_sc_cor (S : k_S) (p i : Nat) (hi : i < 3) : (k_cor S p).2.2.2 i = S.2.2.2 i := by
  show upd (upd _ 8 _) 3 _ i = _
  rw [pk_un (by omega), pk_un (by omega)]
theorem k_sc_ret (S : k_S) (i : Nat) (hi : i < 3) : (k_ret S).2.2.2 i = S.2.2.2 i := by
  show upd (upd _ 9 _) 3 _ i = _
  rw [pk_un (by omega), pk_un (by omega)]
theorem k_sc_xch (S : k_S) (b o i : Nat) (hi : i < 3) : (k_xch S b o).2.2.2 i = S.2.2.2 i := by
  show upd _ 3 _ i = _
  rw [pk_un (by omega)]
theorem k_sc2_rest (S : k_S) (n : Nat) : (k_rest S n).2.2.2 2 = S.2.2.2 2 := k_sc_rest S n 2 (by decide)
theorem k_sc2_cor (S : k_S) (p : Nat) : (k_cor S p).2.2.2 2 = S.2.2.2 2 := k_sc_cor S p 2 (by decide)
theorem k_sc2_ret (S : k_S) : (k_ret S).2.2.2 2 = S.2.2.2 2 := k_sc_ret S 2 (by decide)
theorem k_sc2_xch (S : k_S) (b o : Nat) : (k_xch S b o).2.2.2 2 = S.2.2.2 2 := k_sc_xch S b o 2 (by decide)
theorem k_act_ok {S N : k_S} {v w : Int32} (h : k_Jv S) (hN : k_Jv N) {r : Int32} {T : k_S} (e : k_act S N v w = some (r, T)) : r ≠ -9 ∧ k_Jv T := by
  obtain ⟨hI, h2⟩ := h
  unfold k_act at e
  by_cases e6 : k_jj v < 6
  · rw [if_pos e6] at e
    by_cases ew : k_wn S.1 S.2.2.1 S.2.2.2 (k_let w) = 0
    · rw [if_pos ew] at e
      cases e
      have hx := k_x_lt hI.1.1.2.1 (k_let_lt w) (k_wn_inv ew).1
      exact ⟨k_not9 (by omega), k_Iv_set hI (k_let_lt w) ew, by rw [k_set_sc (by decide)]; exact h2⟩
    · rw [if_neg ew] at e
      cases e
  rw [if_neg e6] at e
  by_cases e8 : k_jj v < 8
  · rw [if_pos e8] at e
    cases e
    have hn := k_idl_le w
    have hc := k_cnt_le (k_bm S.1 S.2.1 (-1)) (k_idl w)
    refine ⟨k_not9 (by omega), k_Iv_rest hI, ?_⟩
    rw [k_sc2_rest]
    exact h2
  rw [if_neg e8] at e
  by_cases e10 : k_jj v < 10
  · rw [if_pos e10] at e
    by_cases el : S.2.2.1.length = 0
    · rw [if_pos el] at e
      cases e
    rw [if_neg el] at e
    have hk := k_low_lt (v := w) (n := S.2.2.1.length) (by omega)
    by_cases ew : k_wc S.1 S.2.2.1 S.2.2.2 (k_low w S.2.2.1.length) = 0
    · rw [if_pos ew] at e
      cases e
      have hr : k_er (k_rep S.2.2.1 (k_low w S.2.2.1.length) (k_la S.2.2.1 (k_low w S.2.2.1.length)).2) ≤ (k_rep S.2.2.1 (k_low w S.2.2.1.length) (k_la S.2.2.1 (k_low w S.2.2.1.length)).2).length := k_cnt_le _ _
      have hr2 : (k_rep S.2.2.1 (k_low w S.2.2.1.length) (k_la S.2.2.1 (k_low w S.2.2.1.length)).2).length = S.2.2.1.length := by unfold k_rep; rw [List.length_set]
      have hl := hI.1.1.2.2.1
      refine ⟨k_not9 (by omega), k_Iv_cor hI hk ew, ?_⟩
      rw [k_sc2_cor]
      exact h2
    · rw [if_neg ew] at e
      cases e
  rw [if_neg e10] at e
  by_cases e11 : k_jj v = 10
  · rw [if_pos e11] at e
    by_cases el : 8 < S.2.2.1.length
    · rw [if_pos el] at e
      cases e
    rw [if_neg el] at e
    by_cases e1 : w.toBitVec.toNat % 2 = 0
    · rw [if_pos e1] at e
      by_cases ew : k_wy S.1 S.2.2.1 S.2.2.2 = 0
      · rw [if_pos ew] at e
        cases e
        have hw := k_wr_le (k_rb_ok hI.1.1.2.1 hI.1.1.2.2 ew S.2.2.1.length (Nat.le_refl _))
        refine ⟨k_not9 (by omega), k_Iv_ret hI ew, ?_⟩
        rw [k_sc2_ret]
        exact h2
      · rw [if_neg ew] at e
        cases e
    · rw [if_neg e1] at e
      cases e
      have hl := hN.1.1.1.2.2.1
      exact ⟨k_not9 (by omega), hN⟩
  rw [if_neg e11] at e
  by_cases e12 : k_jj v = 11
  · rw [if_pos e12] at e
    cases e
    have hi := k_low_lt (v := w) (n := 3) (by decide)
    have hv := k_chv_ok w (k_low w 3) hi
    refine ⟨?_, k_Iv_chg hI hi hv, ?_⟩
    · obtain ⟨m, hm, e0⟩ := hI.1.2.1
      have e1 := hI.1.2.2.1
      have e9 := hI.1.2.2.2
      obtain ei | ei | ei : k_low w 3 = 0 ∨ k_low w 3 = 1 ∨ k_low w 3 = 2 := by omega
      · rw [ei, e0]; exact k_not9 (by omega)
      · rw [ei, e1]; exact k_not9 (by omega)
      · rw [ei]
        rcases h2 with h2 | h2
        · rw [h2]; decide
        · rw [h2]; decide
    · show upd (upd S.2.2.2 3 (-1)) (k_low w 3) _ 2 = _ ∨ upd (upd S.2.2.2 3 (-1)) (k_low w 3) _ 2 = _
      by_cases ei : k_low w 3 = 2
      · rw [ei, pk_us]
        have hb := Nat.mod_lt (w >>> 2).toBitVec.toNat (show 0 < 2 by decide)
        show nI ((w >>> 2).toBitVec.toNat % 2) = _ ∨ nI ((w >>> 2).toBitVec.toNat % 2) = _
        obtain eb | eb : (w >>> 2).toBitVec.toNat % 2 = 0 ∨ (w >>> 2).toBitVec.toNat % 2 = 1 := by omega
        · rw [eb]; exact Or.inl rfl
        · rw [eb]; exact Or.inr rfl
      · rw [pk_un (fun z => ei z.symm), pk_un (by decide)]
        exact h2
  rw [if_neg e12] at e
  cases e
  have hb := k_low_lt (v := w) (n := 12) (by decide)
  have ho := k_low_lt (v := w >>> 4) (n := 12) (by decide)
  have hw := k_wr_le (k_Bok_ex hI.1.1.2.1 hb ho)
  refine ⟨k_not9 (by omega), k_Iv_xch hI hb ho, ?_⟩
  rw [k_sc2_xch]
  exact h2
theorem k_aR_9 {S N : k_S} {v w : Int32} (h : k_Jv S) (hN : k_Jv N) : k_aR (k_act S N v w) = -9 ↔ k_act S N v w = none := by
  cases e : k_act S N v w with
  | none => exact ⟨fun _ => rfl, fun _ => rfl⟩
  | some q => exact ⟨fun z => absurd z (k_act_ok h hN (r := q.1) (T := q.2) e).1, fun z => by cases z⟩
theorem k_aS_J {S N : k_S} {v w : Int32} (h : k_Jv S) (hN : k_Jv N) : k_Jv (k_aS S (k_act S N v w)) := by
  cases e : k_act S N v w with
  | none => exact h
  | some q => exact (k_act_ok h hN (r := q.1) (T := q.2) e).2
