/-! WHAT A CASE IS, in lists and numbers: boxes (from below), no machine in it but the arrays that hold them -/
theorem q_nadd {a b c : Nat} (h : a + b = c) : nI a + nI b = nI c := by rw [nI_add, h]
theorem q_ninc1 {a c : Nat} (h : a + 1 = c) : nI a + Int32.ofInt 1 = nI c := by
  rw [show Int32.ofInt 1 = nI 1 by decide, nI_add, h]
theorem q_ninc3 {a c : Nat} (h : a + 3 = c) : nI a + Int32.ofInt 3 = nI c := by
  rw [show Int32.ofInt 3 = nI 3 by decide, nI_add, h]
theorem q_nsub {a b c : Nat} (h : b ≤ a) (h2 : a - b = c) : nI a - nI b = nI c := by rw [pk_sub h, h2]
theorem q_ndec {a b : Nat} (h : 1 ≤ a) (h2 : a - 1 = b) : nI a + (-1) = nI b := by
  obtain ⟨k, rfl⟩ : ∃ k, a = k + 1 := ⟨a - 1, by omega⟩
  rw [pk_m1, ← h2, Nat.add_sub_cancel]
theorem q_ndec1 {a b : Nat} (h : 1 ≤ a) (h2 : a - 1 = b) : nI a + Int32.ofInt (-1) = nI b := by
  rw [show Int32.ofInt (-1) = (-1 : Int32) by decide]; exact q_ndec h h2
theorem q_nmul {a b c : Nat} (h : a * b = c) : nI a * nI b = nI c := by rw [pk_mul, h]
theorem q_nz {a : Nat} (h0 : 0 < a) (h : a < 2 ^ 31) : ¬ nI a = 0 := nI_ne0 h0 h
theorem q_bd0 {P : Prop} [Decidable P] : q_b (decide P) = 0 ↔ ¬ P := by
  by_cases h : P <;> simp [q_b, h]
abbrev k_Bx : Type := Nat → List Nat
def k_at (l : List Nat) (i : Nat) : Nat := l.getD i 0
def k_Bok (bx : k_Bx) : Prop := ∀ b, b < 12 → (bx b).length ≤ 20 ∧ ∀ x ∈ bx b, x < 12
def k_BR (bx : k_Bx) (fs fh : Nat → Int32) : Prop := ∀ b, b < 12 → fh b = nI (bx b).length ∧ ∀ i, i < (bx b).length → fs (20 * b + i) = nI (k_at (bx b) i)
def k_put (bx : k_Bx) (b x : Nat) : k_Bx := va_up bx b (bx b ++ [x])
def k_drop (bx : k_Bx) (b : Nat) : k_Bx := va_up bx b (bx b).dropLast
def k_cut (bx : k_Bx) (b k : Nat) : k_Bx := va_up bx b ((bx b).eraseIdx k)
/-- the type that lies d deep in box b, -1 if there are not so many -/
def k_top (bx : k_Bx) (b d : Nat) : Int32 := if d < (bx b).length then nI (k_at (bx b) ((bx b).length - 1 - d)) else -1
theorem k_at_lt {l : List Nat} {i n : Nat} (h : ∀ x ∈ l, x < n) (hi : i < l.length) : k_at l i < n := by
  unfold k_at
  rw [List.getD_eq_getElem?_getD, List.getElem?_eq_getElem hi]
  exact h _ (List.getElem_mem hi)
theorem k_at_app {l m : List Nat} {i : Nat} (h : i < l.length) : k_at (l ++ m) i = k_at l i := by
  unfold k_at
  rw [List.getD_eq_getElem?_getD, List.getD_eq_getElem?_getD, List.getElem?_append_left h]
theorem k_at_new {l : List Nat} {x : Nat} : k_at (l ++ [x]) l.length = x := by
  unfold k_at
  rw [List.getD_eq_getElem?_getD, List.getElem?_append_right (Nat.le_refl _), Nat.sub_self]
  rfl
theorem k_at_dl {l : List Nat} {i : Nat} (h : i < l.length - 1) : k_at l.dropLast i = k_at l i := by
  unfold k_at
  rw [List.getD_eq_getElem?_getD, List.getD_eq_getElem?_getD, List.getElem?_dropLast, if_pos h]
theorem k_at_er {l : List Nat} {i k : Nat} : k_at (l.eraseIdx k) i = if i < k then k_at l i else k_at l (i + 1) := by
  unfold k_at
  rw [List.getD_eq_getElem?_getD, List.getElem?_eraseIdx]
  split <;> rw [List.getD_eq_getElem?_getD]
theorem k_up_s {α : Type} {f : Nat → α} {k : Nat} {x : α} : va_up f k x k = x := by simp [va_up]
theorem k_up_n {α : Type} {f : Nat → α} {k j : Nat} {x : α} (h : j ≠ k) : va_up f k x j = f j := by simp [va_up, h]
theorem k_Bok_put {bx : k_Bx} {b x : Nat} (h : k_Bok bx) (hl : (bx b).length < 20) (hx : x < 12) : k_Bok (k_put bx b x) := by
  intro c hc
  unfold k_put
  by_cases e : c = b
  · subst e
    rw [k_up_s, List.length_append]
    refine ⟨by simp; omega, fun y hy => ?_⟩
    rcases List.mem_append.mp hy with hy | hy
    · exact (h c hc).2 y hy
    · rw [List.mem_singleton.mp hy]; exact hx
  · rw [k_up_n e]; exact h c hc
theorem k_Bok_drop {bx : k_Bx} {b : Nat} (h : k_Bok bx) : k_Bok (k_drop bx b) := by
  intro c hc
  unfold k_drop
  by_cases e : c = b
  · subst e
    rw [k_up_s, List.length_dropLast]
    exact ⟨by have := (h c hc).1; omega, fun y hy => (h c hc).2 y (List.dropLast_subset _ hy)⟩
  · rw [k_up_n e]; exact h c hc
theorem k_Bok_cut {bx : k_Bx} {b k : Nat} (h : k_Bok bx) : k_Bok (k_cut bx b k) := by
  intro c hc
  unfold k_cut
  by_cases e : c = b
  · subst e
    rw [k_up_s]
    refine ⟨?_, fun y hy => (h c hc).2 y (List.mem_of_mem_eraseIdx hy)⟩
    have h1 := (h c hc).1
    have h2 := List.length_eraseIdx_le (bx c) k
    omega
  · rw [k_up_n e]; exact h c hc
theorem k_BR_put {bx : k_Bx} {b x : Nat} {fs fh : Nat → Int32} (hok : k_Bok bx) (h : k_BR bx fs fh) (hb : b < 12) (hl : (bx b).length < 20) : k_BR (k_put bx b x) (upd fs (20 * b + (bx b).length) (nI x)) (upd fh b (nI ((bx b).length + 1))) := by
  intro c hc
  unfold k_put
  have hlc := (hok c hc).1
  by_cases e : c = b
  · subst e
    rw [k_up_s, pk_us, List.length_append, List.length_singleton]
    refine ⟨rfl, fun i hi => ?_⟩
    by_cases e2 : i = (bx c).length
    · subst e2; rw [pk_us, k_at_new]
    · rw [pk_un (by omega), k_at_app (by omega)]; exact (h c hc).2 i (by omega)
  · rw [k_up_n e, pk_un e]
    exact ⟨(h c hc).1, fun i hi => by rw [pk_un (by omega)]; exact (h c hc).2 i hi⟩
theorem k_BR_drop {bx : k_Bx} {b : Nat} {fs fh : Nat → Int32} (h : k_BR bx fs fh) : k_BR (k_drop bx b) fs (upd fh b (nI ((bx b).length - 1))) := by
  intro c hc
  unfold k_drop
  by_cases e : c = b
  · subst e
    rw [k_up_s, pk_us, List.length_dropLast]
    exact ⟨rfl, fun i hi => by rw [k_at_dl hi]; exact (h c hc).2 i (by omega)⟩
  · rw [k_up_n e, pk_un e]; exact h c hc
theorem k_drop_0 {bx : k_Bx} {b : Nat} (h : (bx b).length = 0) : k_drop bx b = bx := by
  funext c
  unfold k_drop
  by_cases e : c = b
  · subst e
    rw [k_up_s, List.eq_nil_of_length_eq_zero h]; rfl
  · rw [k_up_n e]
def k_isB (cI : ClassId) (a : Nat) (bx : k_Bx) (at0 : Nat) (w : va_W) : Prop := at0 < 12 ∧ k_Bok bx ∧ ∃ (hs hh : Nat) (fs fh : Nat → Int32), k_BR bx fs fh ∧ w = [(a, .inr (0, [.ref hs, .ref hh, .int (nI at0)])), (hs, .inl (cI, 240, .inl fs)), (hh, .inl (cI, 12, .inl fh))]
theorem k_isB_recv {cI : ClassId} {a : Nat} {bx : k_Bx} {at0 : Nat} {w : va_W} (h : k_isB cI a bx at0 w) : ∃ fs : List Value, w[0]? = some (a, .inr (0, fs)) := by
  obtain ⟨-, -, hs, hh, fs, fh, -, rfl⟩ := h
  exact ⟨_, rfl⟩
theorem k_top_some {bx : k_Bx} {b d : Nat} (h : d < (bx b).length) : k_top bx b d = nI (k_at (bx b) ((bx b).length - 1 - d)) := if_pos h
theorem k_top_none {bx : k_Bx} {b d : Nat} (h : (bx b).length ≤ d) : k_top bx b d = -1 := if_neg (by omega)
