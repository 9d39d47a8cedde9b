/-! WHAT A CASE IS, in lists and numbers: boxes (from below), no machine in it but the arrays that hold them -/
theorem q_nadd {a b c : Nat} (h : a + b = c) : nI a + nI b = nI c := by rw [nI_add, h]
theorem q_ninc1 {a c : Nat} (h : a + 1 = c) : nI a + Int32.ofInt 1 = nI c := by
  rw [show Int32.ofInt 1 = nI 1 by decide, nI_add, h]
theorem q_ninc3 {a c : Nat} (h : a + 3 = c) : nI a + Int32.ofInt 3 = nI c := by
  rw [show Int32.ofInt 3 = nI 3 by decide, nI_add, h]
theorem q_nsub {a b c : Nat} (h : b ≤ a) (h2 : a - b = c) : nI a - nI b = nI c := by rw [pk_sub h, h2]
theorem q_ndec {a b : Nat} (h : 1 ≤ a) (h2 : a - 1 = b) : nI a + (-1) = nI b := by
  obtain ⟨k, rfl⟩ : ∃ k, a = k + 1 := ⟨a - 1, by omega⟩
  rw [pk_m1, ← h2, Nat.add_sub_cancel]
theorem q_ndec1 {a b : Nat} (h : 1 ≤ a) (h2 : a - 1 = b) : nI a + Int32.ofInt (-1) = nI b := by
  rw [show Int32.ofInt (-1) = (-1 : Int32) by decide]; exact q_ndec h h2
theorem q_nmul {a b c : Nat} (h : a * b = c) : nI a * nI b = nI c := by rw [pk_mul, h]
theorem q_nz {a : Nat} (h0 : 0 < a) (h : a < 2 ^ 31) : ¬ nI a = 0 := nI_ne0 h0 h
theorem q_bd0 {P : Prop} [Decidable P] : q_b (decide P) = 0 ↔ ¬ P := by
  by_cases h : P <;> simp [q_b, h]
abbrev k_Bx : Type := Nat → List Nat
def k_at (l : List Nat) (i : Nat) : Nat := l.getD i 0
def k_Bok (bx : k_Bx) : Prop := ∀ b, b < 12 → (bx b).length ≤ 20 ∧ ∀ x ∈ bx b, x < 12
def k_BR (bx : k_Bx) (fs fh : Nat → Int32) : Prop := ∀ b, b < 12 → fh b = nI (bx b).length ∧ ∀ i, i < (bx b).length → fs (20 * b + i) = nI (k_at (bx b) i)
def k_put (bx : k_Bx) (b x : Nat) : k_Bx := va_up bx b (bx b ++ [x])
def k_drop (bx : k_Bx) (b : Nat) : k_Bx := va_up bx b (bx b).dropLast
def k_cut (bx : k_Bx) (b k : Nat) : k_Bx := va_up bx b ((bx b).eraseIdx k)
/-- the type that lies d deep in box b, -1 if there are not so many -/
def k_top (bx : k_Bx) (b d : Nat) : Int32 := if d < (bx b).length then nI (k_at (bx b) ((bx b).length - 1 - d)) else -1
theorem k_at_lt {l : List Nat} {i n : Nat} (h : ∀ x ∈ l, x < n) (hi : i < l.length) : k_at l i < n := by
  unfold k_at
  rw [List.getD_eq_getElem?_getD, List.getElem?_eq_getElem hi]
  exact h _ (List.getElem_mem hi)
theorem k_at_app {l m : List Nat} {i : Nat} (h : i < l.length) : k_at (l ++ m) i = k_at l i := by
  unfold k_at
  rw [List.getD_eq_getElem?_getD, List.getD_eq_getElem?_getD, List.getElem?_append_left h]
theorem k_at_new {l : List Nat} {x : Nat} : k_at (l ++ [x]) l.length = x := by
  unfold k_at
  rw [List.getD_eq_getElem?_getD, List.getElem?_append_right (Nat.le_refl _), Nat.sub_self]
  rfl
theorem k_at_dl {l : List Nat} {i : Nat} (h : i < l.length - 1) : k_at l.dropLast i = k_at l i := by
  unfold k_at
  rw [List.getD_eq_getElem?_getD, List.getD_eq_getElem?_getD, List.getElem?_dropLast, if_pos h]
theorem k_at_er {l : List Nat} {i k : Nat} : k_at (l.eraseIdx k) i = if i < k then k_at l i else k_at l (i + 1) := by
  unfold k_at
  rw [List.getD_eq_getElem?_getD, List.getElem?_eraseIdx]
  split <;> rw [List.getD_eq_getElem?_getD]
theorem k_up_s {α : Type} {f : Nat → α} {k : Nat} {x : α} : va_up f k x k = x := by simp [va_up]
theorem k_up_n {α : Type} {f : Nat → α} {k j : Nat} {x : α} (h : j ≠ k) : va_up f k x j = f j := by simp [va_up, h]
theorem k_Bok_put {bx : k_Bx} {b x : Nat} (h : k_Bok bx) (hl : (bx b).length < 20) (hx : x < 12) : k_Bok (k_put bx b x) := by
  intro c hc
  unfold k_put
  by_cases e : c = b
  · subst e
    rw [k_up_s, List.length_append]
    refine ⟨by simp; omega, fun y hy => ?_⟩
    rcases List.mem_append.mp hy with hy | hy
    · exact (h c hc).2 y hy
    · rw [List.mem_singleton.mp hy]; exact hx
  · rw [k_up_n e]; exact h c hc
theorem k_Bok_drop {bx : k_Bx} {b : Nat} (h : k_Bok bx) : k_Bok (k_drop bx b) := by
  intro c hc
  unfold k_drop
  by_cases e : c = b
  · subst e
    rw [k_up_s, List.length_dropLast]
    exact ⟨by have := (h c hc).1; omega, fun y hy => (h c hc).2 y (List.dropLast_subset _ hy)⟩
  · rw [k_up_n e]; exact h c hc
theorem k_Bok_cut {bx : k_Bx} {b k : Nat} (h : k_Bok bx) : k_Bok (k_cut bx b k) := by
  intro c hc
  unfold k_cut
  by_cases e : c = b
  · subst e
    rw [k_up_s]
    refine ⟨?_, fun y hy => (h c hc).2 y (List.mem_of_mem_eraseIdx hy)⟩
    have h1 := (h c hc).1
    have h2 := List.length_eraseIdx_le (bx c) k
    omega
  · rw [k_up_n e]; exact h c hc
theorem k_BR_put {bx : k_Bx} {b x : Nat} {fs fh : Nat → Int32} (hok : k_Bok bx) (h : k_BR bx fs fh) (hb : b < 12) (hl : (bx b).length < 20) : k_BR (k_put bx b x) (upd fs (20 * b + (bx b).length) (nI x)) (upd fh b (nI ((bx b).length + 1))) := by
  intro c hc
  unfold k_put
  have hlc := (hok c hc).1
  by_cases e : c = b
  · subst e
    rw [k_up_s, pk_us, List.length_append, List.length_singleton]
    refine ⟨rfl, fun i hi => ?_⟩
    by_cases e2 : i = (bx c).length
    · subst e2; rw [pk_us, k_at_new]
    · rw [pk_un (by omega), k_at_app (by omega)]; exact (h c hc).2 i (by omega)
  · rw [k_up_n e, pk_un e]
    exact ⟨(h c hc).1, fun i hi => by rw [pk_un (by omega)]; exact (h c hc).2 i hi⟩
theorem k_BR_drop {bx : k_Bx} {b : Nat} {fs fh : Nat → Int32} (h : k_BR bx fs fh) : k_BR (k_drop bx b) fs (upd fh b (nI ((bx b).length - 1))) := by
  intro c hc
  unfold k_drop
  by_cases e : c = b
  · subst e
    rw [k_up_s, pk_us, List.length_dropLast]
    exact ⟨rfl, fun i hi => by rw [k_at_dl hi]; exact (h c hc).2 i (by omega)⟩
  · rw [k_up_n e, pk_un e]; exact h c hc
theorem k_drop_0 {bx : k_Bx} {b : Nat} (h : (bx b).length = 0) : k_drop bx b = bx := by
  funext c
  unfold k_drop
  by_cases e : c = b
  · subst e
    rw [k_up_s, List.eq_nil_of_length_eq_zero h]; rfl
  · rw [k_up_n e]
def k_isB (cI : ClassId) (a : Nat) (bx : k_Bx) (at0 : Nat) (w : va_W) : Prop := at0 < 12 ∧ k_Bok bx ∧ ∃ (hs hh : Nat) (fs fh : Nat → Int32), k_BR bx fs fh ∧ w = [(a, .inr (0, [.ref hs, .ref hh, .int (nI at0)])), (hs, .inl (cI, 240, .inl fs)), (hh, .inl (cI, 12, .inl fh))]
theorem k_isB_recv {cI : ClassId} {a : Nat} {bx : k_Bx} {at0 : Nat} {w : va_W} (h : k_isB cI a bx at0 w) : ∃ fs : List Value, w[0]? = some (a, .inr (0, fs)) := by
  obtain ⟨-, -, hs, hh, fs, fh, -, rfl⟩ := h
  exact ⟨_, rfl⟩
theorem k_top_some {bx : k_Bx} {b d : Nat} (h : d < (bx b).length) : k_top bx b d = nI (k_at (bx b) ((bx b).length - 1 - d)) := if_pos h
theorem k_top_none {bx : k_Bx} {b d : Nat} (h : (bx b).length ≤ d) : k_top bx b d = -1 := if_neg (by omega)
/-- counting, adding up, from 0 on -/
def k_cnt (p : Nat → Bool) : Nat → Nat
  | 0 => 0
  | n + 1 => k_cnt p n + if p n then 1 else 0
def k_sum (f : Nat → Nat) : Nat → Nat
  | 0 => 0
  | n + 1 => k_sum f n + f n
theorem k_cnt_t {p : Nat → Bool} {n : Nat} (h : p n = true) : k_cnt p (n + 1) = k_cnt p n + 1 := by simp [k_cnt, h]
theorem k_cnt_f {p : Nat → Bool} {n : Nat} (h : p n = false) : k_cnt p (n + 1) = k_cnt p n := by simp [k_cnt, h]
theorem k_cnt_le (p : Nat → Bool) (n : Nat) : k_cnt p n ≤ n := by
  induction n with
  | zero => exact Nat.le_refl _
  | succ n ih => simp only [k_cnt]; split <;> omega
theorem k_cnt_0 (p : Nat → Bool) : k_cnt p 0 = 0 := rfl
theorem k_sum_0 (f : Nat → Nat) : k_sum f 0 = 0 := rfl
theorem k_sum_s (f : Nat → Nat) (n : Nat) : k_sum f (n + 1) = k_sum f n + f n := rfl
theorem k_cnt_front (q : Nat → Bool) (n : Nat) : k_cnt q (n + 1) = (if q 0 then 1 else 0) + k_cnt (fun d => q (d + 1)) n := by
  induction n with
  | zero => simp [k_cnt]
  | succ n ih =>
    rw [show k_cnt q (n + 1 + 1) = k_cnt q (n + 1) + (if q (n + 1) then 1 else 0) from rfl, ih]
    show _ = _ + (k_cnt (fun d => q (d + 1)) n + if q (n + 1) then 1 else 0)
    omega
theorem k_cnt_cong {p q : Nat → Bool} {n : Nat} (h : ∀ i, i < n → p i = q i) : k_cnt p n = k_cnt q n := by
  induction n with
  | zero => rfl
  | succ n ih => simp only [k_cnt]; rw [ih (fun i hi => h i (by omega)), h n (by omega)]
theorem k_sum_cong {f g : Nat → Nat} {n : Nat} (h : ∀ i, i < n → f i = g i) : k_sum f n = k_sum g n := by
  induction n with
  | zero => rfl
  | succ n ih => simp only [k_sum]; rw [ih (fun i hi => h i (by omega)), h n (by omega)]
theorem k_cnt_rev (p : Nat → Bool) (n : Nat) : k_cnt (fun d => p (n - 1 - d)) n = k_cnt p n := by
  induction n with
  | zero => rfl
  | succ n ih =>
    rw [k_cnt_front]
    simp only [Nat.add_sub_cancel, Nat.sub_zero]
    rw [k_cnt_cong (q := fun d => p (n - 1 - d)) (fun i _ => by rw [show n - (i + 1) = n - 1 - i by omega]), ih]
    simp only [k_cnt]
    omega
theorem k_cnt_not (p : Nat → Bool) (n : Nat) : k_cnt p n + k_cnt (fun i => !p i) n = n := by
  induction n with
  | zero => rfl
  | succ n ih =>
    simp only [k_cnt]
    by_cases h : p n = true
    · simp [h]; omega
    · simp [h]; omega
/-- how many types of sort x lie in box b -/
def k_cn (bx : k_Bx) (b x : Nat) : Nat := k_cnt (fun i => k_at (bx b) i == x) (bx b).length
/-- how many lie wrong in box b -/
def k_wi (bx : k_Bx) (b : Nat) : Nat := k_cnt (fun i => k_at (bx b) i != b) (bx b).length
def k_wr (bx : k_Bx) : Nat := k_sum (fun b => k_wi bx b) 12
def k_st (bx : k_Bx) (x : Nat) : Nat := k_sum (fun b => if b = x then 0 else k_cn bx b x) 12
def k_ty (bx : k_Bx) : Nat := k_sum (fun b => (bx b).length) 12
theorem k_cn_le (bx : k_Bx) (b x : Nat) : k_cn bx b x ≤ (bx b).length := k_cnt_le _ _
theorem k_wi_eq (bx : k_Bx) (b : Nat) : (bx b).length - k_cn bx b b = k_wi bx b := by
  have h := k_cnt_not (fun i => k_at (bx b) i == b) (bx b).length
  have h2 : k_wi bx b = k_cnt (fun i => !(k_at (bx b) i == b)) (bx b).length := k_cnt_cong (fun i _ => rfl)
  unfold k_cn
  omega
theorem k_wi_le (bx : k_Bx) (b : Nat) : k_wi bx b ≤ (bx b).length := k_cnt_le _ _
/-- the place, from below, of the upmost type that is right -/
def k_last (p : Nat → Bool) : Nat → Option Nat
  | 0 => none
  | n + 1 => if p n then some n else k_last p n
def k_rt (bx : k_Bx) (b : Nat) : Option Nat := k_last (fun i => k_at (bx b) i == b) (bx b).length
theorem k_last_t {p : Nat → Bool} {n : Nat} (h : p n = true) : k_last p (n + 1) = some n := by simp [k_last, h]
theorem k_last_f {p : Nat → Bool} {n : Nat} (h : p n = false) : k_last p (n + 1) = k_last p n := by simp [k_last, h]
theorem k_last_lt {p : Nat → Bool} {n i : Nat} (h : k_last p n = some i) : i < n ∧ p i = true := by
  induction n with
  | zero => cases h
  | succ n ih =>
    cases e : p n with
    | true => rw [k_last_t e] at h; cases h; exact ⟨by omega, e⟩
    | false => rw [k_last_f e] at h; have := ih h; exact ⟨by omega, this.2⟩
/-- how deep it lies, -1 if there is none -/
def k_dp (bx : k_Bx) (b : Nat) : Int32 := match k_rt bx b with
  | some k => nI ((bx b).length - 1 - k)
  | none => -1
theorem k_dp_some {bx : k_Bx} {b k : Nat} (h : k_rt bx b = some k) : k_dp bx b = nI ((bx b).length - 1 - k) := by simp [k_dp, h]
theorem k_dp_none {bx : k_Bx} {b : Nat} (h : k_rt bx b = none) : k_dp bx b = -1 := by simp [k_dp, h]
theorem k_BR_cong {bx : k_Bx} {fs fh gs gh : Nat → Int32} (hok : k_Bok bx) (h : k_BR bx gs gh) (h1 : ∀ q, q < 240 → fs q = gs q) (h2 : ∀ q, q < 12 → fh q = gh q) : k_BR bx fs fh := by
  intro b hb
  have hl := (hok b hb).1
  exact ⟨(h2 b hb).trans (h b hb).1, fun i hi => (h1 _ (by omega)).trans ((h b hb).2 i hi)⟩
theorem k_BR_cut {bx : k_Bx} {b k : Nat} {fs fh f : Nat → Int32} (hok : k_Bok bx) (h : k_BR bx fs fh) (hb : b < 12) (hk : k < (bx b).length) (hf : ∀ q, f q = if 20 * b + k ≤ q ∧ q < 20 * b + ((bx b).length - 1) then fs (q + 1) else fs q) : k_BR (k_cut bx b k) f (upd fh b (nI ((bx b).length - 1))) := by
  intro c hc
  have hlc := (hok c hc).1
  have hlb := (hok b hb).1
  unfold k_cut
  by_cases e : c = b
  · subst e
    rw [k_up_s, pk_us, List.length_eraseIdx, if_pos hk]
    refine ⟨rfl, fun i hi => ?_⟩
    rw [hf, k_at_er]
    by_cases e2 : i < k
    · rw [if_neg (by omega), if_pos e2]; exact (h c hc).2 i (by omega)
    · rw [if_pos (by omega), if_neg e2]; exact (h c hc).2 (i + 1) (by omega)
  · rw [k_up_n e, pk_un e]
    refine ⟨(h c hc).1, fun i hi => ?_⟩
    rw [hf, if_neg (by omega)]; exact (h c hc).2 i hi
/-- an idle beat: the hand is at hd -/
def k_x (bx : k_Bx) (a : Nat) : Nat := k_at (bx a) ((bx a).length - 1)
def k_mv (bx : k_Bx) (a : Nat) (hd : Int32) : Bool := decide (0 < (bx a).length ∧ k_x bx a ≠ a ∧ nI a ≠ hd ∧ nI (k_x bx a) ≠ hd ∧ (bx (k_x bx a)).length < 20)
def k_nb (bx : k_Bx) (a : Nat) (hd : Int32) : k_Bx := if k_mv bx a hd = true then k_put (k_drop bx a) (k_x bx a) (k_x bx a) else bx
def k_na (bx : k_Bx) (a : Nat) (hd : Int32) : Nat := if k_mv bx a hd = true then a else if a + 1 < 12 then a + 1 else 0
theorem k_drop_n {bx : k_Bx} {a c : Nat} (h : c ≠ a) : k_drop bx a c = bx c := k_up_n h
theorem k_drop_s {bx : k_Bx} {a : Nat} : k_drop bx a a = (bx a).dropLast := k_up_s
theorem k_put_n {bx : k_Bx} {a x c : Nat} (h : c ≠ a) : k_put bx a x c = bx c := k_up_n h
theorem k_put_s {bx : k_Bx} {a x : Nat} : k_put bx a x a = bx a ++ [x] := k_up_s
theorem k_x_lt {bx : k_Bx} {a : Nat} (hok : k_Bok bx) (ha : a < 12) (h : 0 < (bx a).length) : k_x bx a < 12 := k_at_lt (hok a ha).2 (by omega)
/-- the upmost types of two boxes change places -/
def k_e2 (bx : k_Bx) (b o : Nat) : k_Bx := if 0 < (bx b).length then k_put (k_drop (k_drop bx b) o) o (k_x bx b) else k_drop (k_drop bx b) o
def k_ex (bx : k_Bx) (b o : Nat) : k_Bx := if b = o then bx else if 0 < (bx o).length then k_put (k_e2 bx b o) b (k_x bx o) else k_e2 bx b o
/-- t beats, the hand at hd all the while -/
def k_bs (bx : k_Bx) (a : Nat) (hd : Int32) : Nat → k_Bx × Nat
  | 0 => (bx, a)
  | t + 1 => (k_nb (k_bs bx a hd t).1 (k_bs bx a hd t).2 hd, k_na (k_bs bx a hd t).1 (k_bs bx a hd t).2 hd)
def k_bm (bx : k_Bx) (a : Nat) (hd : Int32) (t : Nat) : Bool := k_mv (k_bs bx a hd t).1 (k_bs bx a hd t).2 hd
/-- the beat of the last move among t, 0 if none -/
def k_lm (bx : k_Bx) (a : Nat) (hd : Int32) : Nat → Nat
  | 0 => 0
  | t + 1 => if k_bm bx a hd t = true then t + 1 else k_lm bx a hd t
def k_first (p : Nat → Bool) : Nat → Nat
  | 0 => 0
  | n + 1 => if k_first p n < n then k_first p n else if p n then n else n + 1
theorem k_first_no {p : Nat → Bool} {n : Nat} (h : ∀ u, u < n → p u = false) : k_first p n = n := by
  induction n with
  | zero => rfl
  | succ n ih =>
    have h1 := ih (fun u hu => h u (by omega))
    simp only [k_first]
    rw [h1, if_neg (by omega), h n (by omega)]
    rfl
theorem k_first_eq {p : Nat → Bool} {n t : Nat} (ht : t < n) (hp : p t = true) (h : ∀ u, u < t → p u = false) : k_first p n = t := by
  induction n with
  | zero => omega
  | succ n ih =>
    simp only [k_first]
    by_cases e : t < n
    · rw [ih e, if_pos e]
    · have e2 : t = n := by omega
      subst e2
      rw [k_first_no h, if_neg (by omega), if_pos hp]
/-- how many beats until none has moved for twelve -/
def k_T (bx : k_Bx) (a : Nat) : Nat := k_first (fun t => decide (12 ≤ t - k_lm bx a (-1) t)) 877
theorem k_T_eq {bx : k_Bx} {a t : Nat} (ht : t < 877) (h1 : 12 ≤ t - k_lm bx a (-1) t) (h2 : ∀ u, u < t → u - k_lm bx a (-1) u < 12) : k_T bx a = t :=
  k_first_eq ht (decide_eq_true h1) (fun u hu => decide_eq_false (by have := h2 u hu; omega))
theorem k_lm_t {bx : k_Bx} {a : Nat} {hd : Int32} {t : Nat} (h : k_bm bx a hd t = true) : k_lm bx a hd (t + 1) = t + 1 := if_pos h
theorem k_lm_f {bx : k_Bx} {a : Nat} {hd : Int32} {t : Nat} (h : k_bm bx a hd t = false) : k_lm bx a hd (t + 1) = k_lm bx a hd t := if_neg (by simp [h])
theorem k_lm_le (bx : k_Bx) (a : Nat) (hd : Int32) (t : Nat) : k_lm bx a hd t ≤ t := by
  induction t with
  | zero => exact Nat.le_refl _
  | succ t ih =>
    cases e : k_bm bx a hd t with
    | true => rw [k_lm_t e]; omega
    | false => rw [k_lm_f e]; omega
theorem k_sum_upd {f : Nat → Nat} {v i n : Nat} (h : i < n) : k_sum (fun b => if b = i then v else f b) n + f i = k_sum f n + v := by
  induction n with
  | zero => omega
  | succ n ih =>
    simp only [k_sum]
    by_cases e : i = n
    · subst e
      rw [if_pos rfl, k_sum_cong (g := f) (fun j hj => if_neg (by omega))]
      omega
    · have := ih (by omega)
      rw [if_neg (by omega)]
      omega
theorem k_sum_ge {f : Nat → Nat} {i n : Nat} (h : i < n) : f i ≤ k_sum f n := by
  induction n with
  | zero => omega
  | succ n ih =>
    simp only [k_sum]
    by_cases e : i = n
    · subst e; omega
    · have := ih (by omega); omega
theorem k_cnt_dl (p : Nat → Bool) (l : List Nat) (h : 0 < l.length) : k_cnt (fun i => p (k_at l i)) l.length = k_cnt (fun i => p (k_at l.dropLast i)) l.dropLast.length + if p (k_at l (l.length - 1)) then 1 else 0 := by
  obtain ⟨m, hm⟩ : ∃ m, l.length = m + 1 := ⟨l.length - 1, by omega⟩
  rw [List.length_dropLast, hm]
  show k_cnt _ m + _ = k_cnt _ m + _
  rw [k_cnt_cong (q := fun i => p (k_at l.dropLast i)) (fun i hi => by rw [k_at_dl (by omega)])]
  rfl
theorem k_cnt_app (p : Nat → Bool) (l : List Nat) (x : Nat) : k_cnt (fun i => p (k_at (l ++ [x]) i)) (l ++ [x]).length = k_cnt (fun i => p (k_at l i)) l.length + if p x then 1 else 0 := by
  rw [List.length_append, List.length_singleton]
  show k_cnt _ l.length + (if p (k_at (l ++ [x]) l.length) then 1 else 0) = _
  rw [k_cnt_cong (q := fun i => p (k_at l i)) (fun i hi => by rw [k_at_app hi]), k_at_new]
theorem k_mv_iff {bx : k_Bx} {a : Nat} {hd : Int32} : k_mv bx a hd = true ↔ (0 < (bx a).length ∧ k_x bx a ≠ a ∧ nI a ≠ hd ∧ nI (k_x bx a) ≠ hd ∧ (bx (k_x bx a)).length < 20) := decide_eq_true_iff
theorem k_na_lt {bx : k_Bx} {a : Nat} {hd : Int32} (h : a < 12) : k_na bx a hd < 12 := by
  unfold k_na
  split
  · exact h
  · split <;> omega
theorem k_Bok_nb {bx : k_Bx} {a : Nat} {hd : Int32} (h : k_Bok bx) (ha : a < 12) : k_Bok (k_nb bx a hd) := by
  unfold k_nb
  split
  · rename_i hm
    obtain ⟨h1, h2, -, -, h5⟩ := k_mv_iff.mp hm
    exact k_Bok_put (k_Bok_drop h) (by rw [k_drop_n h2]; exact h5) (k_x_lt h ha h1)
  · exact h
theorem k_wr_nb {bx : k_Bx} {a : Nat} {hd : Int32} (h : k_Bok bx) (ha : a < 12) : k_wr (k_nb bx a hd) + (if k_mv bx a hd = true then 1 else 0) = k_wr bx := by
  unfold k_nb
  by_cases hm : k_mv bx a hd = true
  · rw [if_pos hm, if_pos hm]
    obtain ⟨h1, h2, -, -, h5⟩ := k_mv_iff.mp hm
    have e : ∀ b, k_wi (k_put (k_drop bx a) (k_x bx a) (k_x bx a)) b = if b = a then k_wi bx a - 1 else k_wi bx b := by
      intro b
      by_cases e1 : b = k_x bx a
      · rw [if_neg (by rw [e1]; exact h2)]
        unfold k_wi
        rw [e1, k_put_s, k_drop_n h2, k_cnt_app (fun z => z != k_x bx a)]
        simp
      · unfold k_wi
        rw [k_put_n e1]
        by_cases e2 : b = a
        · subst e2
          rw [if_pos rfl, k_drop_s, k_cnt_dl (fun z => z != b) _ h1]
          have : (k_at (bx b) ((bx b).length - 1) != b) = true := by simpa [k_x] using h2
          rw [if_pos this]
          omega
        · rw [if_neg e2, k_drop_n e2]
    have h6 : 1 ≤ k_wi bx a := by
      unfold k_wi
      rw [k_cnt_dl (fun z => z != a) _ h1, if_pos (by simpa [k_x] using h2)]
      omega
    have h7 := k_sum_upd (f := fun b => k_wi bx b) (v := k_wi bx a - 1) ha
    unfold k_wr
    rw [k_sum_cong (fun b _ => e b)]
    omega
  · rw [if_neg hm, if_neg hm]
    rfl
theorem k_bs_ok {bx : k_Bx} {a : Nat} {hd : Int32} (h : k_Bok bx) (ha : a < 12) (t : Nat) : k_Bok (k_bs bx a hd t).1 ∧ (k_bs bx a hd t).2 < 12 := by
  induction t with
  | zero => exact ⟨h, ha⟩
  | succ t ih => exact ⟨k_Bok_nb ih.1 ih.2, k_na_lt ih.2⟩
theorem k_bm_wr {bx : k_Bx} {a : Nat} {hd : Int32} (h : k_Bok bx) (ha : a < 12) (t : Nat) : k_wr (k_bs bx a hd t).1 + k_cnt (k_bm bx a hd) t = k_wr bx := by
  induction t with
  | zero => rfl
  | succ t ih =>
    have h1 := k_wr_nb (hd := hd) (k_bs_ok h ha t (hd := hd)).1 (k_bs_ok h ha t (hd := hd)).2
    have h2 : (k_bs bx a hd (t + 1)).1 = k_nb (k_bs bx a hd t).1 (k_bs bx a hd t).2 hd := rfl
    have h3 : k_cnt (k_bm bx a hd) (t + 1) = k_cnt (k_bm bx a hd) t + if k_mv (k_bs bx a hd t).1 (k_bs bx a hd t).2 hd = true then 1 else 0 := rfl
    rw [h2, h3]
    omega
theorem k_wr_ty (bx : k_Bx) : k_wr bx ≤ k_ty bx := by
  unfold k_wr k_ty
  have : ∀ n, k_sum (fun b => k_wi bx b) n ≤ k_sum (fun b => (bx b).length) n := by
    intro n
    induction n with
    | zero => exact Nat.le_refl _
    | succ n ih => simp only [k_sum]; have := k_wi_le bx n; omega
  exact this 12
theorem k_lm_mv {bx : k_Bx} {a : Nat} {hd : Int32} (t : Nat) (h : ∀ u, u < t → u - k_lm bx a hd u < 12) : k_lm bx a hd t ≤ 12 * k_cnt (k_bm bx a hd) t := by
  induction t with
  | zero => exact Nat.le_refl _
  | succ t ih =>
    have h1 := ih (fun u hu => h u (by omega))
    have h2 := h t (by omega)
    cases e : k_bm bx a hd t with
    | true => rw [k_lm_t e, k_cnt_t e]; omega
    | false => rw [k_lm_f e, k_cnt_f e]; exact h1
/-- while twelve still beats haven't passed, fewer than 876 have -/
theorem k_lm_end {bx : k_Bx} {a : Nat} (hok : k_Bok bx) (ha : a < 12) (hty : k_ty bx ≤ 72) (t : Nat) (h : ∀ u, u < t → u - k_lm bx a (-1) u < 12) (h2 : t - k_lm bx a (-1) t < 12) : t < 876 := by
  have h3 := k_lm_mv t h
  have h4 := k_bm_wr (hd := -1) hok ha t
  have h5 := k_wr_ty bx
  omega

