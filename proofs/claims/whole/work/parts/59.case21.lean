/-! THE LAW'S INVARIANT -/
def k_isG (cJ : ClassId) (a : Nat) (g : Nat → Int64) (w : va_W) : Prop := w = [(a, .inl (cJ, 1, .inr (.inl g)))]
def k_CW (cG cI : ClassId) (x : Nat) (S : k_S) (sv : List k_S) (hsn : Int32) (N : k_S) (tx : List Nat) (R : List va_W) : Prop :=
  ∃ (aO aY aN aT aK aB aL aS naB naL naS : Nat) (kb : k_Bx) (ka : Nat) (wX wO wA wB wL wH vO vA vB vL wT wK : va_W), k_isX cI x aO aY aN hsn aT aK wX ∧ (k_isO cI aO aB aL aS S.2.2.2 wO ∧ k_isA cI aS S.2.2.2 wA ∧ k_isB cI aB S.1 S.2.1 wB ∧ k_isL cI aL S.2.2.1 wL) ∧ k_isH cG cI aY sv wH ∧ (k_isO cI aN naB naL naS N.2.2.2 vO ∧ k_isA cI naS N.2.2.2 vA ∧ k_isB cI naB N.1 N.2.1 vB ∧ k_isL cI naL N.2.2.1 vL) ∧ k_isT cI aT tx wT ∧ k_isB cI aK kb ka wK ∧ R = [wX, wO, wA, wB, wL, wH, vO, vA, vB, vL, wT, wK]
def k_MW (cI : ClassId) (y : Nat) (S : k_S) (sv : List k_S) (N : k_S) (tx : List Nat) (fd : Nat → Int32) (R : List va_W) : Prop :=
  ∃ (mS mZ mV mN mU mD : Nat) (hh : Int64) (Z1 : k_S) (dx ps : List Nat) (wP wQ wZ wV wN wU wD : va_W), k_isP cI y mS mZ mV mN mU mD fd hh wP ∧ k_isQ cI mS S.1 S.2.1 S.2.2.1 S.2.2.2 wQ ∧ k_isQ cI mZ Z1.1 Z1.2.1 Z1.2.2.1 Z1.2.2.2 wZ ∧ k_isV cI mV sv wV ∧ k_isQ cI mN N.1 N.2.1 N.2.2.1 N.2.2.2 wN ∧ k_isU cI mU tx wU ∧ k_isD cI mD dx ps wD ∧ R = [wP, wQ, wZ, wV, wN, wU, wD]
def k_Sn (hsn : Int32) (fd : Nat → Int32) (N1 N2 : k_S) : Prop := (hsn = nI 0 ∧ fd 6 = nI 0) ∨ (hsn = nI 1 ∧ fd 6 = nI 1 ∧ N1 = N2 ∧ k_Iv N2)
def law_I (cG cI cJ : ClassId) (x y o : Nat) (Rs : List va_W) : Prop :=
  ∃ (S : k_S) (sv : List k_S) (hsn : Int32) (N1 N2 : k_S) (tx : List Nat) (fd : Nat → Int32) (g : Nat → Int64) (R1 R2 : List va_W), k_CW cG cI x S sv hsn N1 tx R1 ∧ k_MW cI y S sv N2 tx fd R2 ∧ k_Iv S ∧ (∀ T ∈ sv, k_Iv T) ∧ fd 4 = nI sv.length ∧ fd 8 = nI tx.length ∧ k_Sn hsn fd N1 N2 ∧ sv.length ≤ 6 ∧ Rs = R1 ++ R2 ++ [[(o, .inl (cJ, 1, .inr (.inl g)))]]
theorem k_Iv_sav {sv : List k_S} {S : k_S} (h : ∀ T ∈ sv, k_Iv T) (hS : k_Iv S) : ∀ T ∈ k_sav sv S, k_Iv T := by
  intro T hT
  unfold k_sav at hT
  rcases List.mem_append.mp hT with h1 | h1
  · split at h1
    · exact h T (List.mem_of_mem_drop h1)
    · exact h T h1
  · rw [List.mem_singleton.mp h1]; exact hS
theorem k_Iv_pop {sv : List k_S} (h : ∀ T ∈ sv, k_Iv T) : ∀ T ∈ sv.dropLast, k_Iv T := fun T hT => h T (List.dropLast_subset _ hT)
theorem k_Iv_nw {sv : List k_S} (h : ∀ T ∈ sv, k_Iv T) (h0 : 0 < sv.length) : k_Iv (k_nw sv) := h _ (List.mem_of_getElem? (k_nw_at h0))
theorem k_sav_6' {sv : List k_S} {S : k_S} (h : sv.length ≤ 6) : (k_sav sv S).length ≤ 6 := by
  by_cases e : sv.length = 6
  · rw [k_sav_6 e]; omega
  · rw [k_sav_n e]; omega
theorem q_hd {w : va_W} {Rr : List va_W} {a ci : Nat} (h : ∃ fs : List Value, w[0]? = some (a, .inr (ci, fs))) : ∃ fs : List Value, ((w :: Rr).flatten)[0]? = some (a, .inr (ci, fs)) := by
  obtain ⟨fs, h⟩ := h
  refine ⟨fs, ?_⟩
  have hl := (List.getElem?_eq_some_iff.mp h).1
  rw [List.flatten_cons, List.getElem?_append_left hl]
  exact h
theorem lg_self (x : Int64) : lg_cmp x x = 0 := by
  unfold lg_cmp
  simp
theorem k_ex12 {v : Int32} (h : 0 ≤ v ∧ v < 12) : ∃ c, c < 12 ∧ v = nI c := by
  obtain ⟨j, hj, rfl⟩ := nI_of (Int32.not_lt.mpr h.1)
  rw [show (12 : Int32) = nI 12 by decide, nI_ltI hj (by decide)] at h
  exact ⟨j, h.2, rfl⟩
theorem k_exr {v : Int32} {a b : Nat} (h : nI a ≤ v ∧ v ≤ nI b) (ha : a < 2 ^ 31) (hb : b < 2 ^ 31) : ∃ c, (a ≤ c ∧ c ≤ b) ∧ v = nI c := by
  have h0 : (0 : Int32) ≤ v := Int32.le_trans (nI_pos' ha) h.1
  obtain ⟨j, hj, rfl⟩ := nI_of (Int32.not_lt.mpr h0)
  exact ⟨j, ⟨(nI_leI ha hj).mp h.1, (nI_leI hj hb).mp h.2⟩, rfl⟩
theorem k_exn {v : Int32} (h : (0 : Int32) ≤ v) : ∃ c, c < 2147483648 ∧ v = nI c := by
  obtain ⟨j, hj, rfl⟩ := nI_of (Int32.not_lt.mpr h)
  exact ⟨j, hj, rfl⟩
theorem k_exk {ln : List (Nat × Nat)} {v : Int32} (hl : ln.length ≤ 40) (h : k_has ln v = true) : ∃ k, k < ln.length ∧ v = nI k := by
  have h1 := of_decide_eq_true h
  obtain ⟨j, hj, rfl⟩ := nI_of (Int32.not_lt.mpr h1.1)
  exact ⟨j, (nI_ltI hj (by omega)).mp h1.2, rfl⟩
/-- both ways of saying that a number is no box -/
theorem k_nb12 {v : Int32} (h : ¬ (0 ≤ v ∧ v < 12)) : ¬ ((0 : Int32) ≤ v ∧ v ≤ 11) := fun z => h ⟨z.1, by
  obtain ⟨j, hj, rfl⟩ := nI_of (Int32.not_lt.mpr z.1)
  have h2 := z.2
  rw [show (11 : Int32) = nI 11 by decide, nI_leI hj (by decide)] at h2
  rw [show (12 : Int32) = nI 12 by decide, nI_ltI hj (by decide)]; omega⟩
