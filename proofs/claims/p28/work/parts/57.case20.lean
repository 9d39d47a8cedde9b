/-! NO TYPE IS LOST: of each sort six lie in the boxes and the line together -/
def k_tot (bx : k_Bx) (x : Nat) : Nat := k_sum (fun b => (bx b).count x) 12
def k_lc (ln : List (Nat × Nat)) (x : Nat) : Nat := (ln.map Prod.fst).count x
def k_Cv (S : k_S) : Prop := ∀ x, x < 12 → k_tot S.1 x + k_lc S.2.2.1 x = 6
theorem k_cnt_count (x : Nat) : ∀ l : List Nat, k_cnt (fun i => k_at l i == x) l.length = l.count x := by
  intro l
  induction l with
  | nil => rfl
  | cons y l ih =>
    rw [List.length_cons, k_cnt_front, List.count_cons]
    have e2 : k_cnt (fun d => k_at (y :: l) (d + 1) == x) l.length = l.count x := (k_cnt_cong (fun i _ => rfl)).trans ih
    have e : k_at (y :: l) 0 = y := rfl
    rw [e2, e]
    omega
theorem k_cn_count (bx : k_Bx) (b x : Nat) : k_cn bx b x = (bx b).count x := k_cnt_count x (bx b)
theorem k_cl_count (ln : List (Nat × Nat)) (x : Nat) : k_cl ln x = k_lc ln x := by
  unfold k_lc
  rw [← k_cnt_count, List.length_map]
  exact k_cnt_cong (fun i hi => by
    have : k_at (ln.map Prod.fst) i = (k_la ln i).1 := by
      unfold k_at k_la
      simp [List.getElem?_eq_getElem hi]
    rw [this])
theorem k_sum_up {f g : Nat → Nat} {b n : Nat} (h : ∀ j, j < n → j ≠ b → f j = g j) (hb : b < n) : k_sum f n + g b = k_sum g n + f b := by
  induction n with
  | zero => omega
  | succ n ih =>
    rw [k_sum_s, k_sum_s]
    by_cases e : b = n
    · subst e
      have : k_sum f b = k_sum g b := k_sum_cong (fun i hi => h i (by omega) (by omega))
      omega
    · have := ih (fun j hj hn => h j (by omega) hn) (by omega)
      have h2 := h n (by omega) (fun z => e z.symm)
      omega
theorem k_sum_add (f g : Nat → Nat) (n : Nat) : k_sum (fun i => f i + g i) n = k_sum f n + k_sum g n := by
  induction n with
  | zero => rfl
  | succ n ih => simp only [k_sum]; omega
theorem k_sum_swap (f : Nat → Nat → Nat) (n m : Nat) : k_sum (fun i => k_sum (fun j => f i j) m) n = k_sum (fun j => k_sum (fun i => f i j) n) m := by
  induction n with
  | zero =>
    induction m with
    | zero => rfl
    | succ m ih => rw [k_sum_s, ← ih]; rfl
  | succ n ih => rw [k_sum_s, ih, ← k_sum_add]; rfl
theorem k_tot_put {bx : k_Bx} {b y : Nat} (hb : b < 12) (x : Nat) : k_tot (k_put bx b y) x = k_tot bx x + (if y = x then 1 else 0) := by
  have h := k_sum_up (f := fun j => (k_put bx b y j).count x) (g := fun j => (bx j).count x) (b := b) (n := 12) (fun j _ hj => by show (k_put bx b y j).count x = _; rw [k_put_n hj]) hb
  have h2 : (k_put bx b y b).count x = (bx b).count x + (if y = x then 1 else 0) := by
    rw [k_put_s, List.count_append, List.count_singleton]
    simp only [beq_iff_eq]
  unfold k_tot
  try simp only at h
  omega
theorem k_tot_drop {bx : k_Bx} {b : Nat} (hb : b < 12) (h0 : 0 < (bx b).length) (x : Nat) : k_tot (k_drop bx b) x + (if k_x bx b = x then 1 else 0) = k_tot bx x := by
  have h := k_sum_up (f := fun j => (k_drop bx b j).count x) (g := fun j => (bx j).count x) (b := b) (n := 12) (fun j _ hj => by show (k_drop bx b j).count x = _; rw [k_drop_n hj]) hb
  have h2 : (bx b).count x = (k_drop bx b b).count x + (if k_x bx b = x then 1 else 0) := by
    have hne : bx b ≠ [] := fun z => by rw [z] at h0; cases h0
    rw [k_drop_s]
    conv => lhs; rw [← List.dropLast_concat_getLast hne]
    rw [List.count_append, List.count_singleton]
    have hx : k_x bx b = (bx b).getLast hne := by
      unfold k_x k_at
      rw [List.getLast_eq_getElem, List.getD_eq_getElem?_getD, List.getElem?_eq_getElem (by omega)]
      rfl
    rw [hx]
    simp only [beq_iff_eq]
  unfold k_tot
  try simp only at h
  omega
theorem k_tot_cut {bx : k_Bx} {b k : Nat} (hb : b < 12) (hk : k < (bx b).length) (x : Nat) : k_tot (k_cut bx b k) x + (if k_at (bx b) k = x then 1 else 0) = k_tot bx x := by
  have hs : k_cut bx b k b = (bx b).eraseIdx k := k_up_s
  have h := k_sum_up (f := fun j => (k_cut bx b k j).count x) (g := fun j => (bx j).count x) (b := b) (n := 12) (fun j _ hj => by show (k_cut bx b k j).count x = _; rw [show k_cut bx b k j = bx j from k_up_n hj]) hb
  have h2 : (bx b).count x = (k_cut bx b k b).count x + (if k_at (bx b) k = x then 1 else 0) := by
    rw [hs]
    have hx : k_at (bx b) k = (bx b)[k] := by
      unfold k_at
      rw [List.getD_eq_getElem?_getD, List.getElem?_eq_getElem hk]
      rfl
    rw [hx, List.eraseIdx_eq_take_drop_succ, List.count_append]
    conv => lhs; rw [← List.take_append_drop k (bx b), List.count_append, List.drop_eq_getElem_cons hk, List.count_cons]
    simp only [beq_iff_eq]
    omega
  unfold k_tot
  try simp only at h
  omega
theorem k_tot_nb {bx : k_Bx} {a : Nat} {hd : Int32} (hok : k_Bok bx) (ha : a < 12) (x : Nat) : k_tot (k_nb bx a hd) x = k_tot bx x := by
  unfold k_nb
  split
  · rename_i h
    have h1 := (of_decide_eq_true h).1
    have h2 := k_tot_drop (bx := bx) ha h1 x
    rw [k_tot_put (k_x_lt hok ha h1)]
    exact h2
  · rfl
theorem k_tot_bs {bx : k_Bx} {a : Nat} {hd : Int32} (hok : k_Bok bx) (ha : a < 12) (n x : Nat) : k_tot (k_bs bx a hd n).1 x = k_tot bx x := by
  induction n with
  | zero => rfl
  | succ n ih =>
    have h := k_bs_ok (hd := hd) hok ha n
    show k_tot (k_nb _ _ _) x = _
    rw [k_tot_nb h.1 h.2, ih]
theorem k_tot_ex {bx : k_Bx} {b o : Nat} (hok : k_Bok bx) (hb : b < 12) (ho : o < 12) (x : Nat) : k_tot (k_ex bx b o) x = k_tot bx x := by
  by_cases e : b = o
  · unfold k_ex; rw [if_pos e]
  · rcases Nat.eq_zero_or_pos (bx b).length with h1 | h1 <;> rcases Nat.eq_zero_or_pos (bx o).length with h2 | h2
    · rw [k_ex_00 e h1 h2]
    · rw [k_ex_01 e h1 h2, k_tot_put hb]; exact k_tot_drop ho h2 x
    · rw [k_ex_10 e h1 h2, k_tot_put ho]; exact k_tot_drop hb h1 x
    · have hoo : (k_drop bx b) o = bx o := k_drop_n (fun z => e z.symm)
      have h3 := k_tot_drop (bx := bx) hb h1 x
      have h4 := k_tot_drop (bx := k_drop bx b) ho (by rw [hoo]; exact h2) x
      rw [k_ex_11 e h1 h2, k_tot_put hb, k_tot_put ho]
      omega
theorem k_bb_lt12 {ln : List (Nat × Nat)} {sc : Nat → Int32} {p : Nat} (hl : k_Lok ln) (hp : p < ln.length) : k_bb ln sc p < 12 := by
  have h := k_la_lt hl hp
  unfold k_bb
  split
  · exact h.2
  · exact h.1
theorem k_tot_rb {bx : k_Bx} {ln : List (Nat × Nat)} {sc : Nat → Int32} (hl : k_Lok ln) (x : Nat) : ∀ j, j ≤ ln.length → k_tot (k_rb bx ln sc j) x = k_tot bx x + k_cnt (fun i => (k_la ln (ln.length - 1 - i)).1 == x) j := by
  intro j
  induction j with
  | zero => intro _; rfl
  | succ j ih =>
    intro hj
    show k_tot (k_put _ _ _) x = _
    rw [k_tot_put (k_bb_lt12 hl (by omega)), ih (by omega)]
    show _ = _ + (k_cnt _ j + _)
    simp only [beq_iff_eq]
    omega
theorem k_tot_rball {bx : k_Bx} {ln : List (Nat × Nat)} {sc : Nat → Int32} (hl : k_Lok ln) (x : Nat) : k_tot (k_rb bx ln sc ln.length) x = k_tot bx x + k_lc ln x := by
  rw [k_tot_rb hl x ln.length (Nat.le_refl _), k_cnt_rev (fun i => (k_la ln i).1 == x), ← k_cl_count]
  rfl
theorem k_lc_rep {ln : List (Nat × Nat)} {p y : Nat} (hp : p < ln.length) (x : Nat) : k_lc (k_rep ln p y) x + (if (k_la ln p).1 = x then 1 else 0) = k_lc ln x + (if y = x then 1 else 0) := by
  unfold k_lc k_rep
  have hx : (k_la ln p).1 = (ln.map Prod.fst)[p]'(by rw [List.length_map]; exact hp) := by
    unfold k_la
    rw [List.getD_eq_getElem?_getD, List.getElem?_eq_getElem hp, List.getElem_map]
    rfl
  have key : ∀ (m : List Nat) (hpm : p < m.length), (m.set p y).count x + (if m[p] = x then 1 else 0) = m.count x + (if y = x then 1 else 0) := by
    intro m hpm
    have h1 : m.count x = (m.take p).count x + ((m.drop (p + 1)).count x + (if m[p] = x then 1 else 0)) := by
      conv => lhs; rw [← List.take_append_drop p m, List.count_append, List.drop_eq_getElem_cons hpm, List.count_cons]
      simp only [beq_iff_eq]
    have h2 : (m.set p y).count x = (m.take p).count x + ((m.drop (p + 1)).count x + (if y = x then 1 else 0)) := by
      rw [List.set_eq_take_append_cons_drop, if_pos hpm, List.count_append, List.count_cons]
      simp only [beq_iff_eq]
    omega
  rw [List.map_set, hx]
  exact key _ (by rw [List.length_map]; exact hp)
theorem k_lc_app (ln : List (Nat × Nat)) (q : Nat × Nat) (x : Nat) : k_lc (ln ++ [q]) x = k_lc ln x + (if q.1 = x then 1 else 0) := by
  unfold k_lc
  rw [List.map_append, List.count_append]
  simp [List.count_singleton]
/-- what follows -/
theorem k_len_count : ∀ l : List Nat, (∀ x ∈ l, x < 12) → k_sum (fun x => l.count x) 12 = l.length := by
  intro l
  induction l with
  | nil => intro _; rfl
  | cons y l ih =>
    intro h
    have h1 := ih (fun x hx => h x (List.mem_cons_of_mem _ hx))
    have hy := h y (List.mem_cons_self ..)
    have h2 := k_sum_up (f := fun x => (y :: l).count x) (g := fun x => l.count x) (b := y) (n := 12) (fun j _ hj => by
      show (y :: l).count j = l.count j
      rw [List.count_cons]
      have hne : ¬ y = j := fun z => hj z.symm
      simp [hne]) hy
    have h3 : (y :: l).count y = l.count y + 1 := by rw [List.count_cons]; simp
    try simp only at h2
    rw [List.length_cons]
    omega
theorem k_Cv_cs {S : k_S} (h : k_Cv S) : ∀ x, x < 12 → k_cn S.1 x x + k_cl S.2.2.1 x ≤ 6 := by
  intro x hx
  have h1 := h x hx
  have h2 : (S.1 x).count x ≤ k_tot S.1 x := k_sum_ge (f := fun b => (S.1 b).count x) hx
  rw [k_cn_count, k_cl_count]
  omega
theorem k_ty_tot {bx : k_Bx} (hok : k_Bok bx) : k_ty bx = k_sum (fun x => k_tot bx x) 12 := by
  unfold k_ty k_tot
  rw [← k_sum_swap]
  exact k_sum_cong (fun b hb => (k_len_count _ (hok b hb).2).symm)
theorem k_sum_le6 {f : Nat → Nat} {n : Nat} (h : ∀ i, i < n → f i ≤ 6) : k_sum f n ≤ 6 * n := by
  induction n with
  | zero => exact Nat.le_refl _
  | succ n ih => rw [k_sum_s]; have := ih (fun i hi => h i (by omega)); have := h n (by omega); omega
theorem k_Cv_ty {S : k_S} (hok : k_Bok S.1) (h : k_Cv S) : k_ty S.1 ≤ 72 := by
  rw [k_ty_tot hok]
  exact k_sum_le6 (n := 12) (fun x hx => by have := h x hx; omega)
theorem k_Cv_ws {S : k_S} (hok : k_Bok S.1) (h : k_Cv S) : k_ws S.1 S.2.2.1 = k_wr S.1 := by
  have h1 : k_ws S.1 S.2.2.1 = k_sum (fun x => k_tot S.1 x - (S.1 x).count x) 12 := by
    unfold k_ws
    exact k_sum_cong (fun x hx => by rw [k_cn_count, k_cl_count]; have := h x hx; omega)
  have h2 : k_wr S.1 = k_sum (fun b => (S.1 b).length - (S.1 b).count b) 12 := by
    unfold k_wr
    exact k_sum_cong (fun b _ => by rw [← k_wi_eq, k_cn_count])
  have h3 : k_sum (fun x => k_tot S.1 x) 12 = k_sum (fun x => k_tot S.1 x - (S.1 x).count x) 12 + k_sum (fun x => (S.1 x).count x) 12 := by
    rw [← k_sum_add]
    exact k_sum_cong (fun x hx => by have : (S.1 x).count x ≤ k_tot S.1 x := k_sum_ge (f := fun b => (S.1 b).count x) hx; omega)
  have h4 : k_ty S.1 = k_sum (fun b => (S.1 b).length - (S.1 b).count b) 12 + k_sum (fun b => (S.1 b).count b) 12 := by
    rw [← k_sum_add]
    exact k_sum_cong (fun b _ => by have : (S.1 b).count b ≤ (S.1 b).length := List.count_le_length; omega)
  rw [k_ty_tot hok] at h4
  omega
/-! it goes on holding -/
def k_Iv (S : k_S) : Prop := k_Sw S ∧ k_Cv S
theorem k_Iv_rest {S : k_S} {n : Nat} (h : k_Iv S) : k_Iv (k_rest S n) := ⟨k_Sw_rest h.1, fun x hx => by
  show k_tot (k_bs S.1 S.2.1 _ n).1 x + k_lc S.2.2.1 x = 6
  rw [k_tot_bs h.1.1.2.1 h.1.1.1]; exact h.2 x hx⟩
theorem k_Iv_set {S : k_S} {c : Nat} (h : k_Iv S) (hc : c < 12) (hw : k_wn S.1 S.2.2.1 S.2.2.2 c = 0) : k_Iv (k_set S c) := ⟨k_Sw_set h.1 hc hw, fun x hx => by
  have h0 := (k_wn_inv hw).1
  show k_tot (k_bs (k_drop S.1 c) S.2.1 _ _).1 x + k_lc (S.2.2.1 ++ [(k_x S.1 c, c)]) x = 6
  rw [k_tot_bs (k_Bok_drop h.1.1.2.1) h.1.1.1, k_lc_app]
  have h1 := k_tot_drop hc h0 x
  have h2 := h.2 x hx
  show _ + (_ + (if k_x S.1 c = x then 1 else 0)) = 6
  omega⟩
theorem k_Iv_cor {S : k_S} {p : Nat} (h : k_Iv S) (hp : p < S.2.2.1.length) (hw : k_wc S.1 S.2.2.1 S.2.2.2 p = 0) : k_Iv (k_cor S p) := ⟨k_Sw_cor h.1 hp hw, fun x hx => by
  obtain ⟨hw1, ⟨k0, hk0⟩, hw3⟩ := k_wc_inv hw
  obtain ⟨k1, hk1⟩ := k_rt_put (b := k_bb S.2.2.1 S.2.2.2 p) (x := (k_la S.2.2.1 p).1) hk0
  have hla := k_la_lt h.1.1.2.2 hp
  have hk2 := k_rt_lt hk1
  have hb := k_bb_lt12 (sc := S.2.2.2) h.1.1.2.2 hp
  show k_tot (k_cut (k_cb S.1 S.2.2.1 S.2.2.2 p) (k_la S.2.2.1 p).2 ((k_rt (k_cb S.1 S.2.2.1 S.2.2.2 p) (k_la S.2.2.1 p).2).getD 0)) x + k_lc (k_rep S.2.2.1 p (k_la S.2.2.1 p).2) x = 6
  rw [show k_rt (k_cb S.1 S.2.2.1 S.2.2.2 p) (k_la S.2.2.1 p).2 = some k1 from hk1]
  have h1 := k_tot_cut (bx := k_cb S.1 S.2.2.1 S.2.2.2 p) hla.2 hk2.1 x
  have hk3 : k_at (k_cb S.1 S.2.2.1 S.2.2.2 p (k_la S.2.2.1 p).2) k1 = (k_la S.2.2.1 p).2 := hk2.2
  rw [hk3] at h1
  have h2 : k_tot (k_cb S.1 S.2.2.1 S.2.2.2 p) x = _ := k_tot_put hb x
  have h3 := k_lc_rep (y := (k_la S.2.2.1 p).2) hp x
  have h4 := h.2 x hx
  show k_tot (k_cut (k_cb S.1 S.2.2.1 S.2.2.2 p) (k_la S.2.2.1 p).2 k1) x + _ = 6
  omega⟩
theorem k_Iv_ret {S : k_S} (h : k_Iv S) (hw : k_wy S.1 S.2.2.1 S.2.2.2 = 0) : k_Iv (k_ret S) := ⟨k_Sw_ret h.1 hw, fun x hx => by
  show k_tot (k_rb S.1 S.2.2.1 S.2.2.2 S.2.2.1.length) x + k_lc [] x = 6
  rw [k_tot_rball h.1.1.2.2]
  exact h.2 x hx⟩
theorem k_Iv_xch {S : k_S} {b o : Nat} (h : k_Iv S) (hb : b < 12) (ho : o < 12) : k_Iv (k_xch S b o) := ⟨k_Sw_xch h.1 hb ho, fun x hx => by
  show k_tot (k_ex S.1 b o) x + k_lc S.2.2.1 x = 6
  rw [k_tot_ex h.1.1.2.1 hb ho]; exact h.2 x hx⟩
theorem k_Iv_chg {S : k_S} {i : Nat} {v : Int32} (h : k_Iv S) (hi : i < 3) (hv : k_lo i ≤ v ∧ v ≤ k_hi i) : k_Iv (S.1, S.2.1, S.2.2.1, upd (upd S.2.2.2 3 (-1)) i v) := by
  refine ⟨⟨h.1.1, ?_, ?_⟩, h.2⟩
  · show ∃ m, m ≤ 120 ∧ upd (upd S.2.2.2 3 (-1)) i v 0 = nI m
    by_cases e : i = 0
    · subst e
      have h0 : (0 : Int32) ≤ v := Int32.le_trans (show (0 : Int32) ≤ nI 20 by decide) hv.1
      obtain ⟨m, hm, rfl⟩ := nI_of (Int32.not_lt.mpr h0)
      refine ⟨m, (nI_leI hm (by decide)).mp hv.2, by rw [pk_us]⟩
    · rw [pk_un (by omega), pk_un (by decide)]; exact h.1.2.1
  · show upd (upd S.2.2.2 3 (-1)) i v 1 = nI (upd (upd S.2.2.2 3 (-1)) i v 1).toNatClampNeg ∧ (upd (upd S.2.2.2 3 (-1)) i v 1).toNatClampNeg ≤ 9
    by_cases e : i = 1
    · subst e
      rw [pk_us]
      have h0 : (0 : Int32) ≤ v := Int32.le_trans (show (0 : Int32) ≤ nI 0 by decide) hv.1
      obtain ⟨m, hm, rfl⟩ := nI_of (Int32.not_lt.mpr h0)
      rw [nI_clamp hm]
      exact ⟨rfl, (nI_leI hm (by decide)).mp hv.2⟩
    · rw [pk_un (by omega), pk_un (by decide)]; exact h.1.2.2
theorem k_Iv_0 : k_Iv k_S0 := by
  refine ⟨⟨⟨by decide, ?_, k_Lok_nil⟩, ⟨60, by decide, rfl⟩, by decide, by decide⟩, ?_⟩
  · intro b hb
    show (k_bi 12 0 b).length ≤ 20 ∧ ∀ x ∈ k_bi 12 0 b, x < 12
    unfold k_bi
    rw [if_pos hb]
    exact ⟨by rw [List.length_replicate]; decide, fun x hx => by rw [List.eq_of_mem_replicate hx]; exact hb⟩
  · intro x hx
    revert x
    decide

