/-! THE LAW'S INVARIANT -/
def k_CW (cG cI : ClassId) (x : Nat) (S : k_S) (sv : List k_S) (hsn : Int32) (N : k_S) (tx : List Nat) (R : List va_W) : Prop :=
  ∃ (aO aY aN aT aK aB aL aS naB naL naS : Nat) (kb : k_Bx) (ka : Nat) (wX wO wA wB wL wH vO vA vB vL wT wK : va_W), k_isX cI x aO aY aN hsn aT aK wX ∧ (k_isO cI aO aB aL aS S.2.2.2 wO ∧ k_isA cI aS S.2.2.2 wA ∧ k_isB cI aB S.1 S.2.1 wB ∧ k_isL cI aL S.2.2.1 wL) ∧ k_isH cG cI aY sv wH ∧ (k_isO cI aN naB naL naS N.2.2.2 vO ∧ k_isA cI naS N.2.2.2 vA ∧ k_isB cI naB N.1 N.2.1 vB ∧ k_isL cI naL N.2.2.1 vL) ∧ k_isT cI aT tx wT ∧ k_isB cI aK kb ka wK ∧ R = [wX, wO, wA, wB, wL, wH, vO, vA, vB, vL, wT, wK]
theorem k_Iv_sav {sv : List k_S} {S : k_S} (h : ∀ T ∈ sv, k_Iv T) (hS : k_Iv S) : ∀ T ∈ k_sav sv S, k_Iv T := by
  intro T hT
  unfold k_sav at hT
  rcases List.mem_append.mp hT with h1 | h1
  · split at h1
    · exact h T (List.mem_of_mem_drop h1)
    · exact h T h1
  · rw [List.mem_singleton.mp h1]; exact hS
theorem k_Iv_pop {sv : List k_S} (h : ∀ T ∈ sv, k_Iv T) : ∀ T ∈ sv.dropLast, k_Iv T := fun T hT => h T (List.dropLast_subset _ hT)
theorem k_Iv_nw {sv : List k_S} (h : ∀ T ∈ sv, k_Iv T) (h0 : 0 < sv.length) : k_Iv (k_nw sv) := h _ (List.mem_of_getElem? (k_nw_at h0))
theorem k_sav_6' {sv : List k_S} {S : k_S} (h : sv.length ≤ 6) : (k_sav sv S).length ≤ 6 := by
  by_cases e : sv.length = 6
  · rw [k_sav_6 e]; omega
  · rw [k_sav_n e]; omega
theorem q_hd {w : va_W} {Rr : List va_W} {a ci : Nat} (h : ∃ fs : List Value, w[0]? = some (a, .inr (ci, fs))) : ∃ fs : List Value, ((w :: Rr).flatten)[0]? = some (a, .inr (ci, fs)) := by
  obtain ⟨fs, h⟩ := h
  refine ⟨fs, ?_⟩
  have hl := (List.getElem?_eq_some_iff.mp h).1
  rw [List.flatten_cons, List.getElem?_append_left hl]
  exact h
theorem k_ex12 {v : Int32} (h : 0 ≤ v ∧ v < 12) : ∃ c, c < 12 ∧ v = nI c := by
  obtain ⟨j, hj, rfl⟩ := nI_of (Int32.not_lt.mpr h.1)
  rw [show (12 : Int32) = nI 12 by decide, nI_ltI hj (by decide)] at h
  exact ⟨j, h.2, rfl⟩
theorem k_exr {v : Int32} {a b : Nat} (h : nI a ≤ v ∧ v ≤ nI b) (ha : a < 2 ^ 31) (hb : b < 2 ^ 31) : ∃ c, (a ≤ c ∧ c ≤ b) ∧ v = nI c := by
  have h0 : (0 : Int32) ≤ v := Int32.le_trans (nI_pos' ha) h.1
  obtain ⟨j, hj, rfl⟩ := nI_of (Int32.not_lt.mpr h0)
  exact ⟨j, ⟨(nI_leI ha hj).mp h.1, (nI_leI hj hb).mp h.2⟩, rfl⟩
theorem k_exn {v : Int32} (h : (0 : Int32) ≤ v) : ∃ c, c < 2147483648 ∧ v = nI c := by
  obtain ⟨j, hj, rfl⟩ := nI_of (Int32.not_lt.mpr h)
  exact ⟨j, hj, rfl⟩
theorem k_exk {ln : List (Nat × Nat)} {v : Int32} (hl : ln.length ≤ 40) (h : k_has ln v = true) : ∃ k, k < ln.length ∧ v = nI k := by
  have h1 := of_decide_eq_true h
  obtain ⟨j, hj, rfl⟩ := nI_of (Int32.not_lt.mpr h1.1)
  exact ⟨j, (nI_ltI hj (by omega)).mp h1.2, rfl⟩
