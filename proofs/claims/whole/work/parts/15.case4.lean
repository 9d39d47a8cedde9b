/-! THE MODEL'S STATE: one array of numbers, and what it says of a case -/
def k_MR (f : Nat → Int32) (bx : k_Bx) (at0 : Nat) (ln : List (Nat × Nat)) (sc : Nat → Int32) : Prop :=
  (∀ i, i < 12 → i ≠ 4 → f i = sc i) ∧ f 4 = nI at0 ∧ f 12 = nI ln.length ∧ (∀ i, i < ln.length → f (i + 13) = nI (k_la ln i).1 ∧ f (i + 54) = nI (k_la ln i).2) ∧ (∀ b, b < 12 → f (21 * b + 95) = nI (bx b).length ∧ ∀ i, i < (bx b).length → f (21 * b + i + 96) = nI (k_at (bx b) i))
theorem k_MR_sc {f : Nat → Int32} {bx : k_Bx} {at0 : Nat} {ln : List (Nat × Nat)} {sc : Nat → Int32} {i : Nat} {v : Int32} (h : k_MR f bx at0 ln sc) (hi : i < 12) (h4 : i ≠ 4) : k_MR (upd f i v) bx at0 ln (upd sc i v) := by
  obtain ⟨h1, h2, h3, h5, h6⟩ := h
  refine ⟨fun j hj hj4 => ?_, by rw [pk_un (by omega)]; exact h2, by rw [pk_un (by omega)]; exact h3, fun j hj => ?_, fun b hb => ?_⟩
  · by_cases e : j = i
    · subst e; rw [pk_us, pk_us]
    · rw [pk_un e, pk_un e]; exact h1 j hj hj4
  · rw [pk_un (by omega), pk_un (by omega)]; exact h5 j hj
  · rw [pk_un (by omega)]; exact ⟨(h6 b hb).1, fun j hj => by rw [pk_un (by omega)]; exact (h6 b hb).2 j hj⟩
theorem k_MR_at {f : Nat → Int32} {bx : k_Bx} {at0 a : Nat} {ln : List (Nat × Nat)} {sc : Nat → Int32} (h : k_MR f bx at0 ln sc) : k_MR (upd f 4 (nI a)) bx a ln sc := by
  obtain ⟨h1, h2, h3, h5, h6⟩ := h
  refine ⟨fun j hj hj4 => by rw [pk_un hj4]; exact h1 j hj hj4, by rw [pk_us], by rw [pk_un (by omega)]; exact h3, fun j hj => ?_, fun b hb => ?_⟩
  · rw [pk_un (by omega), pk_un (by omega)]; exact h5 j hj
  · rw [pk_un (by omega)]; exact ⟨(h6 b hb).1, fun j hj => by rw [pk_un (by omega)]; exact (h6 b hb).2 j hj⟩
theorem k_MR_put {f : Nat → Int32} {bx : k_Bx} {at0 b x : Nat} {ln : List (Nat × Nat)} {sc : Nat → Int32} (hok : k_Bok bx) (hl : k_Lok ln) (h : k_MR f bx at0 ln sc) (hb : b < 12) (hr : (bx b).length < 20) : k_MR (upd (upd f (21 * b + (bx b).length + 96) (nI x)) (21 * b + 95) (nI ((bx b).length + 1))) (k_put bx b x) at0 ln sc := by
  obtain ⟨h1, h2, h3, h5, h6⟩ := h
  have hll := hl.1
  refine ⟨fun j hj hj4 => by rw [pk_un (by omega), pk_un (by omega)]; exact h1 j hj hj4, by rw [pk_un (by omega), pk_un (by omega)]; exact h2, by rw [pk_un (by omega), pk_un (by omega)]; exact h3, fun j hj => ?_, fun c hc => ?_⟩
  · rw [pk_un (by omega), pk_un (by omega), pk_un (by omega), pk_un (by omega)]; exact h5 j hj
  · have hlc := (hok c hc).1
    by_cases e : c = b
    · subst e
      rw [k_put_s, pk_us, List.length_append, List.length_singleton]
      refine ⟨rfl, fun i hi => ?_⟩
      rw [pk_un (by omega)]
      by_cases e2 : i = (bx c).length
      · subst e2; rw [pk_us, k_at_new]
      · rw [pk_un (by omega), k_at_app (by omega)]; exact (h6 c hc).2 i (by omega)
    · rw [k_put_n e, pk_un (by omega), pk_un (by omega)]
      exact ⟨(h6 c hc).1, fun i hi => by rw [pk_un (by omega), pk_un (by omega)]; exact (h6 c hc).2 i hi⟩
theorem k_MR_cut {f g : Nat → Int32} {bx : k_Bx} {at0 b k : Nat} {ln : List (Nat × Nat)} {sc : Nat → Int32} (hok : k_Bok bx) (hl : k_Lok ln) (h : k_MR f bx at0 ln sc) (hb : b < 12) (hk : k < (bx b).length)
    (hg : ∀ q, q ≠ 21 * b + (bx b).length + 95 → q ≠ 21 * b + 95 → g q = if 21 * b + k + 96 ≤ q ∧ q < 21 * b + (bx b).length + 95 then f (q + 1) else f q) (hg2 : g (21 * b + 95) = nI ((bx b).length - 1)) : k_MR g (k_cut bx b k) at0 ln sc := by
  obtain ⟨h1, h2, h3, h5, h6⟩ := h
  have hll := hl.1
  have hlb := (hok b hb).1
  refine ⟨fun j hj hj4 => by rw [hg _ (by omega) (by omega), if_neg (by omega)]; exact h1 j hj hj4, by rw [hg _ (by omega) (by omega), if_neg (by omega)]; exact h2, by rw [hg _ (by omega) (by omega), if_neg (by omega)]; exact h3, fun j hj => ?_, fun c hc => ?_⟩
  · rw [hg _ (by omega) (by omega), if_neg (by omega), hg _ (by omega) (by omega), if_neg (by omega)]; exact h5 j hj
  · have hlc := (hok c hc).1
    unfold k_cut
    by_cases e : c = b
    · subst e
      rw [k_up_s, List.length_eraseIdx, if_pos hk]
      refine ⟨hg2, fun i hi => ?_⟩
      rw [hg _ (by omega) (by omega), k_at_er]
      by_cases e2 : i < k
      · rw [if_neg (by omega), if_pos e2]; exact (h6 c hc).2 i (by omega)
      · rw [if_pos (by omega), if_neg e2]; exact (h6 c hc).2 (i + 1) (by omega)
    · rw [k_up_n e, hg _ (by omega) (by omega), if_neg (by omega)]
      exact ⟨(h6 c hc).1, fun i hi => by rw [hg _ (by omega) (by omega), if_neg (by omega)]; exact (h6 c hc).2 i hi⟩
theorem k_MR_add {f : Nat → Int32} {bx : k_Bx} {at0 x c : Nat} {ln : List (Nat × Nat)} {sc : Nat → Int32} (hl : ln.length < 40) (h : k_MR f bx at0 ln sc) : k_MR (upd (upd (upd f (ln.length + 13) (nI x)) (ln.length + 54) (nI c)) 12 (nI (ln.length + 1))) bx at0 (ln ++ [(x, c)]) sc := by
  obtain ⟨h1, h2, h3, h5, h6⟩ := h
  refine ⟨fun j hj hj4 => by rw [pk_un (by omega), pk_un (by omega), pk_un (by omega)]; exact h1 j hj hj4, by rw [pk_un (by omega), pk_un (by omega), pk_un (by omega)]; exact h2, by rw [pk_us, List.length_append, List.length_singleton], fun j hj => ?_, fun b hb => ?_⟩
  · rw [List.length_append, List.length_singleton] at hj
    rw [pk_un (show j + 13 ≠ 12 by omega), pk_un (show j + 13 ≠ ln.length + 54 by omega), pk_un (show j + 54 ≠ 12 by omega)]
    by_cases e : j = ln.length
    · subst e; rw [pk_us, pk_us, k_la_new]; exact ⟨rfl, rfl⟩
    · rw [pk_un (by omega), pk_un (by omega), pk_un (by omega), k_la_app (by omega)]; exact h5 j (by omega)
  · rw [pk_un (by omega), pk_un (by omega), pk_un (by omega)]
    exact ⟨(h6 b hb).1, fun i hi => by rw [pk_un (by omega), pk_un (by omega), pk_un (by omega)]; exact (h6 b hb).2 i hi⟩
theorem k_MR_rep {f : Nat → Int32} {bx : k_Bx} {at0 p x : Nat} {ln : List (Nat × Nat)} {sc : Nat → Int32} (hl : k_Lok ln) (h : k_MR f bx at0 ln sc) (hp : p < ln.length) : k_MR (upd f (p + 13) (nI x)) bx at0 (k_rep ln p x) sc := by
  obtain ⟨h1, h2, h3, h5, h6⟩ := h
  have hll := hl.1
  refine ⟨fun j hj hj4 => by rw [pk_un (by omega)]; exact h1 j hj hj4, by rw [pk_un (by omega)]; exact h2, by rw [pk_un (by omega), k_rep_len]; exact h3, fun j hj => ?_, fun b hb => ?_⟩
  · rw [k_rep_len] at hj
    rw [pk_un (show j + 54 ≠ p + 13 by omega)]
    unfold k_rep
    rw [k_la_set hp]
    by_cases e : j = p
    · subst e; rw [pk_us, if_pos rfl]; exact ⟨rfl, (h5 j hj).2⟩
    · rw [pk_un (by omega), if_neg e]; exact h5 j hj
  · rw [pk_un (by omega)]
    exact ⟨(h6 b hb).1, fun i hi => by rw [pk_un (by omega)]; exact (h6 b hb).2 i hi⟩
theorem k_MR_nil {f g : Nat → Int32} {bx : k_Bx} {at0 : Nat} {ln : List (Nat × Nat)} {sc : Nat → Int32} (h : k_MR f bx at0 ln sc) (hg : ∀ q, q < 12 ∨ 95 ≤ q → g q = f q) : k_MR (upd g 12 (nI 0)) bx at0 [] sc := by
  obtain ⟨h1, h2, h3, h5, h6⟩ := h
  refine ⟨fun j hj hj4 => by rw [pk_un (by omega), hg _ (by omega)]; exact h1 j hj hj4, by rw [pk_un (by omega), hg _ (by omega)]; exact h2, by rw [pk_us]; rfl, fun j hj => absurd hj (Nat.not_lt_zero j), fun b hb => ?_⟩
  rw [pk_un (by omega), hg _ (by omega)]
  exact ⟨(h6 b hb).1, fun i hi => by rw [pk_un (by omega), hg _ (by omega)]; exact (h6 b hb).2 i hi⟩
theorem k_MR_cong {f g : Nat → Int32} {bx : k_Bx} {at0 : Nat} {ln : List (Nat × Nat)} {sc : Nat → Int32} (hok : k_Bok bx) (hl : k_Lok ln) (h : k_MR f bx at0 ln sc) (hg : ∀ q, q < 350 → g q = f q) : k_MR g bx at0 ln sc := by
  obtain ⟨h1, h2, h3, h5, h6⟩ := h
  have hll := hl.1
  refine ⟨fun j hj hj4 => by rw [hg _ (by omega)]; exact h1 j hj hj4, by rw [hg _ (by omega)]; exact h2, by rw [hg _ (by omega)]; exact h3, fun j hj => ?_, fun b hb => ?_⟩
  · rw [hg _ (by omega), hg _ (by omega)]; exact h5 j hj
  · have hlb := (hok b hb).1
    rw [hg _ (by omega)]
    exact ⟨(h6 b hb).1, fun i hi => by rw [hg _ (by omega)]; exact (h6 b hb).2 i hi⟩
theorem k_MR_sce {f : Nat → Int32} {bx : k_Bx} {at0 : Nat} {ln : List (Nat × Nat)} {sc sc2 : Nat → Int32} (h : k_MR f bx at0 ln sc) (e : ∀ i, i < 12 → i ≠ 4 → sc2 i = sc i) : k_MR f bx at0 ln sc2 :=
  ⟨fun i hi h4 => (h.1 i hi h4).trans (e i hi h4).symm, h.2⟩
def k_isQ (cI : ClassId) (a : Nat) (bx : k_Bx) (at0 : Nat) (ln : List (Nat × Nat)) (sc : Nat → Int32) (w : va_W) : Prop := at0 < 12 ∧ k_Bok bx ∧ k_Lok ln ∧ ∃ f : Nat → Int32, k_MR f bx at0 ln sc ∧ w = [(a, .inl (cI, 350, .inl f))]
def k_isR (cI : ClassId) (a : Nat) (f : Nat → Int32) (w : va_W) : Prop := w = [(a, .inl (cI, 350, .inl f))]
/-- a text that is collected -/
def k_Tok (tx : List Nat) : Prop := tx.length ≤ 60 ∧ ∀ x ∈ tx, 33 ≤ x ∧ x ≤ 126
def k_TR (tx : List Nat) (f : Nat → Int32) : Prop := ∀ i, i < tx.length → f i = nI (k_at tx i)
def k_isU (cI : ClassId) (a : Nat) (tx : List Nat) (w : va_W) : Prop := k_Tok tx ∧ ∃ f : Nat → Int32, k_TR tx f ∧ w = [(a, .inl (cI, 60, .inl f))]
theorem k_at_le {l : List Nat} {i : Nat} {P : Nat → Prop} (h : ∀ x ∈ l, P x) (hi : i < l.length) : P (k_at l i) := by
  unfold k_at
  rw [List.getD_eq_getElem?_getD, List.getElem?_eq_getElem hi]
  exact h _ (List.getElem_mem hi)
theorem k_TR_app {tx : List Nat} {f : Nat → Int32} {x : Nat} (h : k_TR tx f) : k_TR (tx ++ [x]) (upd f tx.length (nI x)) := by
  intro i hi
  rw [List.length_append, List.length_singleton] at hi
  by_cases e : i = tx.length
  · subst e; rw [pk_us, k_at_new]
  · rw [pk_un e, k_at_app (by omega)]; exact h i (by omega)
theorem k_Tok_app {tx : List Nat} {x : Nat} (h : k_Tok tx) (hl : tx.length < 60) (hx : 33 ≤ x ∧ x ≤ 126) : k_Tok (tx ++ [x]) := by
  refine ⟨by simp; omega, fun y hy => ?_⟩
  rcases List.mem_append.mp hy with hy | hy
  · exact h.2 y hy
  · rw [List.mem_singleton.mp hy]; exact hx
theorem k_Tok_nil : k_Tok [] := ⟨by simp, fun x hx => by cases hx⟩
def k_isE (cI : ClassId) (a : Nat) (f : Nat → Int32) (w : va_W) : Prop := w = [(a, .inl (cI, 64, .inl f))]
def k_isP (_cI : ClassId) (a aS aZ aV aN aU aD : Nat) (fd : Nat → Int32) (hh : Int64) (w : va_W) : Prop := w = [(a, .inr (6, [.int (fd 0), .ref aS, .ref aZ, .ref aV, .int (fd 4), .ref aN, .int (fd 6), .ref aU, .int (fd 8), .int (fd 9), .int (fd 10), .ref aD, .int (fd 12), .int (fd 13), .int (fd 14), .long hh]))]
theorem k_isP_recv {cI : ClassId} {a aS aZ aV aN aU aD : Nat} {fd : Nat → Int32} {hh : Int64} {w : va_W} (h : k_isP cI a aS aZ aV aN aU aD fd hh w) : ∃ fs : List Value, w[0]? = some (a, .inr (6, fs)) := by
  rw [show w = _ from h]
  exact ⟨_, rfl⟩
/-- the saved states, the oldest one first -/
def k_Sok (S : k_S) : Prop := S.2.1 < 12 ∧ k_Bok S.1 ∧ k_Lok S.2.2.1
def k_VR (f : Nat → Int32) (sv : List k_S) : Prop := ∀ j S, sv[j]? = some S → k_Sok S ∧ k_MR (fun q => f (350 * j + q)) S.1 S.2.1 S.2.2.1 S.2.2.2
def k_isV (cI : ClassId) (a : Nat) (sv : List k_S) (w : va_W) : Prop := sv.length ≤ 6 ∧ ∃ f : Nat → Int32, k_VR f sv ∧ w = [(a, .inl (cI, 2100, .inl f))]
theorem k_MR_ext {f g : Nat → Int32} {S : k_S} (hs : k_Sok S) (h : k_MR f S.1 S.2.1 S.2.2.1 S.2.2.2) (hg : ∀ q, q < 350 → g q = f q) : k_MR g S.1 S.2.1 S.2.2.1 S.2.2.2 := k_MR_cong hs.2.1 hs.2.2 h hg
/-- one more is saved -/
theorem k_VR_add {f g s : Nat → Int32} {sv : List k_S} {S : k_S} (h : k_VR f sv) (hs : k_Sok S) (hm : k_MR s S.1 S.2.1 S.2.2.1 S.2.2.2) (hg : ∀ q, q < 350 * sv.length → g q = f q) (hg2 : ∀ q, q < 350 → g (350 * sv.length + q) = s q) : k_VR g (sv ++ [S]) := by
  intro j T hj
  by_cases e : j < sv.length
  · rw [List.getElem?_append_left e] at hj
    obtain ⟨h1, h2⟩ := h j T hj
    refine ⟨h1, k_MR_ext h1 h2 (fun q hq => hg _ ?_)⟩
    have : 350 * j + 350 ≤ 350 * sv.length := by omega
    omega
  · have e2 : j = sv.length := by
      have := (List.getElem?_eq_some_iff.mp hj).1
      rw [List.length_append, List.length_singleton] at this
      omega
    subst e2
    rw [List.getElem?_append_right (Nat.le_refl _), Nat.sub_self] at hj
    cases hj
    exact ⟨hs, k_MR_ext hs hm hg2⟩
theorem k_VR_tail {f g : Nat → Int32} {sv : List k_S} (h : k_VR f sv) (hl : sv.length ≤ 6) (hg : ∀ q, q < 1750 → g q = f (q + 350)) : k_VR g (sv.drop 1) := by
  intro j T hj
  rw [List.getElem?_drop] at hj
  obtain ⟨h1, h2⟩ := h (1 + j) T hj
  have hlt := (List.getElem?_eq_some_iff.mp hj).1
  exact ⟨h1, k_MR_ext h1 h2 (fun q hq => by rw [hg _ (by omega), show 350 * j + q + 350 = 350 * (1 + j) + q by omega])⟩
theorem k_VR_pop {f : Nat → Int32} {sv : List k_S} (h : k_VR f sv) : k_VR f sv.dropLast := by
  intro j T hj
  rw [List.getElem?_dropLast] at hj
  split at hj
  · exact h j T hj
  · cases hj
/-- the newest one -/
def k_nw (sv : List k_S) : k_S := sv.getLastD (fun _ => [], 0, [], fun _ => 0)
theorem k_nw_at {sv : List k_S} (h : 0 < sv.length) : sv[sv.length - 1]? = some (k_nw sv) := by
  unfold k_nw
  rw [List.getLastD_eq_getLast?, List.getLast?_eq_getElem?]
  rw [List.getElem?_eq_getElem (by omega)]
  rfl
def k_sav (sv : List k_S) (S : k_S) : List k_S := (if sv.length = 6 then sv.drop 1 else sv) ++ [S]
def k_isW (cI : ClassId) (a : Nat) (f : Nat → Int32) (w : va_W) : Prop := w = [(a, .inl (cI, 2100, .inl f))]
theorem k_sav_6 {sv : List k_S} {S : k_S} (h : sv.length = 6) : (k_sav sv S).length = sv.length - 1 + 1 := by
  unfold k_sav
  rw [if_pos h, List.length_append, List.length_drop]
  rfl
theorem k_sav_n {sv : List k_S} {S : k_S} (h : ¬ sv.length = 6) : (k_sav sv S).length = sv.length + 1 := by
  unfold k_sav
  rw [if_neg h, List.length_append]
  rfl
theorem k_VR_6 {f g s : Nat → Int32} {sv : List k_S} {S : k_S} (h : k_VR f sv) (h6 : sv.length = 6) (hs : k_Sok S) (hm : k_MR s S.1 S.2.1 S.2.2.1 S.2.2.2) (hg : ∀ q, q < 1750 → g q = f (q + 350)) (hg2 : ∀ q, q < 350 → g (350 * (sv.length - 1) + q) = s q) : k_VR g (k_sav sv S) := by
  unfold k_sav
  rw [if_pos h6]
  have hl : (sv.drop 1).length = sv.length - 1 := by rw [List.length_drop]
  exact k_VR_add (f := g) (k_VR_tail h (by omega) hg) hs hm (fun q _ => rfl) (by rw [hl]; exact hg2)
theorem k_VR_n {f g s : Nat → Int32} {sv : List k_S} {S : k_S} (h : k_VR f sv) (h6 : ¬ sv.length = 6) (hs : k_Sok S) (hm : k_MR s S.1 S.2.1 S.2.2.1 S.2.2.2) (hg : ∀ q, q < 350 * sv.length → g q = f q) (hg2 : ∀ q, q < 350 → g (350 * sv.length + q) = s q) : k_VR g (k_sav sv S) := by
  unfold k_sav
  rw [if_neg h6]
  exact k_VR_add h hs hm hg hg2
