/-! THE HISTORY: a ring of six states; each state packed into one region -/
section QP
variable {p : Program} {l : Launch} {e : Env} {R : Room} {s : State} {m : MethodId} {args : Array Value} {below : List Frame} {meth : Method} {c : Code} {Q : State → Prop} {D : va_G} {A : Nat → Prop} {nL cells slots pc : Nat} {L : List (Nat × Value)} {st : List Value} {Rs Rs' : List va_W}
/-- the cells in another order -/
theorem q_prm (h1 : Rs.flatten.Perm Rs'.flatten) (kk : q_V p l e R s m args below meth c D A nL Q cells slots pc L st Rs') : q_V p l e R s m args below meth c D A nL Q cells slots pc L st Rs := by
  intro H locs ls hP hD hS hL
  refine kk H locs ls ?_ ?_ hS hL
  · rw [q_Pm] at hP ⊢
    exact fun q hq => hP q (h1.mem_iff.mpr hq)
  · rw [q_Dm] at hD ⊢
    exact ⟨(h1.map Prod.fst).nodup_iff.mp hD.1, fun q hq => hD.2 q (h1.mem_iff.mpr hq)⟩
/-- the count of new cells, said otherwise -/
theorem q_eqn {cells' slots' : Nat} (h1 : cells = cells') (h2 : slots = slots') (kk : q_V p l e R s m args below meth c D A nL Q cells' slots' pc L st Rs) : q_V p l e R s m args below meth c D A nL Q cells slots pc L st Rs := by
  subst h1; subst h2; exact kk
theorem k_fl2 {X Y : va_W} {Rr : List va_W} : ((X ++ Y) :: Rr).flatten = (X :: Y :: Rr).flatten := by simp
end QP
/-- an array of this class may be made -/
def q_Na (Z : (Nat → Prop) → State → Heap → Prop) : Prop := ∀ (A : Nat → Prop) (U : State) (H : Heap), Z A U H → va_AO "SortCases$State" U
def k_isS (cI : ClassId) (a : Nat) (S : k_S) (w : va_W) : Prop := ∃ (aB aL aS : Nat) (wO wA wB wL : va_W), k_isO cI a aB aL aS S.2.2.2 wO ∧ k_isA cI aS S.2.2.2 wA ∧ k_isB cI aB S.1 S.2.1 wB ∧ k_isL cI aL S.2.2.1 wL ∧ w = [wO, wA, wB, wL].flatten
theorem k_isS_recv {cI : ClassId} {a : Nat} {S : k_S} {w : va_W} (h : k_isS cI a S w) : ∃ fs : List Value, w[0]? = some (a, .inr (3, fs)) := by
  obtain ⟨aB, aL, aS, wO, wA, wB, wL, rfl, -, -, -, rfl⟩ := h
  exact ⟨_, rfl⟩
theorem k_isS_mk {cI : ClassId} {a aB aL aS : Nat} {bx : k_Bx} {at0 : Nat} {ln : List (Nat × Nat)} {sc : Nat → Int32} {wO wA wB wL : va_W} (hO : k_isO cI a aB aL aS sc wO) (hA : k_isA cI aS sc wA) (hB : k_isB cI aB bx at0 wB) (hL : k_isL cI aL ln wL) : k_isS cI a (bx, at0, ln, sc) [wO, wA, wB, wL].flatten := ⟨aB, aL, aS, wO, wA, wB, wL, hO, hA, hB, hL, rfl⟩
/-- the ring: six places, the next one, and what lies in the newest of them -/
def k_Hat (nx : Nat) (T : Nat → k_S) (sv : List k_S) : Prop := sv.length ≤ 6 ∧ nx < 6 ∧ ∀ k, k < sv.length → sv[k]? = some (T ((nx + 6 - sv.length + k) % 6))
def k_H6 (cI : ClassId) (f : Nat → Option Nat) (g : Nat → Nat) (T : Nat → k_S) (W : Nat → va_W) (n : Nat) : Prop := ∀ i, i < n → f i = some (g i) ∧ k_isS cI (g i) (T i) (W i)
def k_flat (W : Nat → va_W) (n : Nat) : va_W := ((List.range n).map W).flatten
def k_Hr (W : Nat → va_W) (i : Nat) : va_W := (((List.range 6).erase i).map W).flatten
def k_Hc (cG : ClassId) (a aG nx sz : Nat) (f : Nat → Option Nat) : va_W := [(a, .inr (1, [.ref aG, .int (nI nx), .int (nI sz)])), (aG, .inl (cG, 6, .inr (.inr (.inr (.inr f)))))]
def k_isH (cG cI : ClassId) (a : Nat) (sv : List k_S) (w : va_W) : Prop := ∃ (aG nx : Nat) (f : Nat → Option Nat) (g : Nat → Nat) (T : Nat → k_S) (W : Nat → va_W), k_Hat nx T sv ∧ k_H6 cI f g T W 6 ∧ w = k_Hc cG a aG nx sv.length f ++ k_flat W 6
theorem k_isH_recv {cG cI : ClassId} {a : Nat} {sv : List k_S} {w : va_W} (h : k_isH cG cI a sv w) : ∃ fs : List Value, w[0]? = some (a, .inr (1, fs)) := by
  obtain ⟨aG, nx, f, g, T, W, -, -, rfl⟩ := h
  exact ⟨_, rfl⟩
theorem k_flat_perm {W : Nat → va_W} {i : Nat} (h : i < 6) : (k_flat W 6).Perm (W i ++ k_Hr W i) := by
  have h1 : (List.range 6).Perm (i :: (List.range 6).erase i) := List.perm_cons_erase (List.mem_range.mpr h)
  have h2 := (h1.map W).flatten
  exact h2
theorem k_Hr_rep {W : Nat → va_W} {i : Nat} {w : va_W} : k_Hr (fun j => if j = i then w else W j) i = k_Hr W i := by
  unfold k_Hr
  congr 1
  refine List.map_congr_left fun j hj => ?_
  have hn : j ≠ i := (List.nodup_range.mem_erase_iff.mp hj).1
  exact if_neg hn
theorem k_H_out {W : Nat → va_W} {i : Nat} {X w1 w2 w3 w4 : va_W} {Rr : List va_W} (h : i < 6) (hw : W i = [w1, w2, w3, w4].flatten) : ((X ++ k_flat W 6) :: Rr).flatten.Perm (X :: k_Hr W i :: w1 :: w2 :: w3 :: w4 :: Rr).flatten := by
  have h1 := k_flat_perm (W := W) h
  rw [hw] at h1
  rw [List.flatten_cons, show (X :: k_Hr W i :: w1 :: w2 :: w3 :: w4 :: Rr).flatten = X ++ (k_Hr W i ++ ([w1, w2, w3, w4].flatten ++ Rr.flatten)) by simp, ← List.append_assoc (k_Hr W i), ← List.append_assoc X]
  exact List.Perm.append_right _ (List.Perm.append_left _ (h1.trans List.perm_append_comm))
theorem k_H_in {W : Nat → va_W} {i : Nat} {X w1 w2 w3 w4 : va_W} {Rr : List va_W} (h : i < 6) : (X :: k_Hr W i :: w1 :: w2 :: w3 :: w4 :: Rr).flatten.Perm ((X ++ k_flat (fun j => if j = i then [w1, w2, w3, w4].flatten else W j) 6) :: Rr).flatten := by
  refine List.Perm.symm ?_
  have := k_H_out (W := fun j => if j = i then [w1, w2, w3, w4].flatten else W j) (X := X) (Rr := Rr) h (if_pos rfl)
  rw [k_Hr_rep] at this
  exact this
theorem k_H6_rep {cI : ClassId} {f : Nat → Option Nat} {g : Nat → Nat} {T : Nat → k_S} {W : Nat → va_W} {i : Nat} {S : k_S} {w : va_W} (h : k_H6 cI f g T W 6) (hw : k_isS cI (g i) S w) : k_H6 cI f g (fun j => if j = i then S else T j) (fun j => if j = i then w else W j) 6 := by
  intro j hj
  by_cases e : j = i
  · subst e
    simp only [if_pos rfl]
    exact ⟨(h j hj).1, hw⟩
  · simp only [if_neg e]
    exact h j hj
theorem k_H6_same {cI : ClassId} {f : Nat → Option Nat} {g : Nat → Nat} {T : Nat → k_S} {W : Nat → va_W} {i : Nat} {w : va_W} (h : k_H6 cI f g T W 6) (hw : k_isS cI (g i) (T i) w) : k_H6 cI f g T (fun j => if j = i then w else W j) 6 := by
  intro j hj
  by_cases e : j = i
  · subst e
    simp only [if_pos rfl]
    exact ⟨(h j hj).1, hw⟩
  · simp only [if_neg e]
    exact h j hj
theorem k_Hat_sav {nx : Nat} {T : Nat → k_S} {sv : List k_S} {S : k_S} {n2 : Nat} (h : k_Hat nx T sv) (h2 : n2 = if nx + 1 < 6 then nx + 1 else 0) : k_Hat n2 (fun j => if j = nx then S else T j) (k_sav sv S) := by
  obtain ⟨h6, hn, hk⟩ := h
  have hn2 : n2 = (nx + 1) % 6 := by rw [h2]; split <;> omega
  by_cases e : sv.length = 6
  · refine ⟨by rw [k_sav_6 e]; omega, by omega, fun k hlt => ?_⟩
    have hl := k_sav_6 (S := S) e
    rw [hl] at hlt
    rw [hl]
    unfold k_sav
    rw [if_pos e]
    show (List.drop 1 sv ++ [S])[k]? = some (if _ = nx then S else T _)
    by_cases ek : k = 5
    · rw [if_pos (by omega), List.getElem?_append_right (by rw [List.length_drop]; omega), List.length_drop, show k - (sv.length - 1) = 0 by omega]
      rfl
    · rw [if_neg (by omega), List.getElem?_append_left (by rw [List.length_drop]; omega), List.getElem?_drop, hk (1 + k) (by omega)]
      congr 2
      omega
  · refine ⟨by rw [k_sav_n e]; omega, by omega, fun k hlt => ?_⟩
    have hl := k_sav_n (S := S) e
    rw [hl] at hlt
    rw [hl]
    unfold k_sav
    rw [if_neg e]
    show (sv ++ [S])[k]? = some (if _ = nx then S else T _)
    by_cases ek : k = sv.length
    · rw [if_pos (by omega), List.getElem?_append_right (by omega), show k - sv.length = 0 by omega]
      rfl
    · rw [if_neg (by omega), List.getElem?_append_left (by omega), hk k (by omega)]
      congr 2
      omega
theorem k_sav_len {sv : List k_S} {S : k_S} : (k_sav sv S).length = if sv.length < 6 then sv.length + 1 else (if sv.length = 6 then 6 else sv.length + 1) := by
  by_cases e : sv.length = 6
  · rw [k_sav_6 e, if_neg (by omega), if_pos e, e]
  · rw [k_sav_n e]
    split <;> first | rfl | rw [if_neg e]
theorem k_Hat_pop {nx : Nat} {T : Nat → k_S} {sv : List k_S} {n2 : Nat} (h : k_Hat nx T sv) (h0 : 0 < sv.length) (h2 : n2 = if 0 < nx then nx - 1 else 5) : k_Hat n2 T sv.dropLast ∧ n2 < 6 ∧ T n2 = k_nw sv := by
  obtain ⟨h6, hn, hk⟩ := h
  have hn2 : n2 = (nx + 5) % 6 := by rw [h2]; split <;> omega
  refine ⟨⟨by rw [List.length_dropLast]; omega, by omega, fun k hlt => ?_⟩, by omega, ?_⟩
  · rw [List.length_dropLast] at hlt ⊢
    rw [List.getElem?_dropLast, if_pos hlt, hk k (by omega)]
    congr 2
    omega
  · have h3 := hk (sv.length - 1) (by omega)
    rw [k_nw_at h0] at h3
    injection h3 with h3
    rw [h3]
    congr 1
    omega
/-- the ring while it is filled -/
def k_S0 : k_S := (k_bi 12 0, 0, [], k_sc0)
def k_h0 (cG cI : ClassId) (a aG i : Nat) (w : va_W) : Prop := ∃ (f : Nat → Option Nat) (g : Nat → Nat) (W : Nat → va_W), k_H6 cI f g (fun _ => k_S0) W i ∧ w = k_Hc cG a aG 0 0 f ++ k_flat W i
def k_i1 (_cI : ClassId) (a : Nat) (w : va_W) : Prop := w = [(a, .inr (1, [.null, .int 0, .int 0]))]
theorem k_flat_s (W : Nat → va_W) (n : Nat) : k_flat W (n + 1) = k_flat W n ++ W n := by
  unfold k_flat
  rw [List.range_succ, List.map_append, List.flatten_append]
  simp
theorem k_flat_cong {W V : Nat → va_W} {n : Nat} (h : ∀ i, i < n → V i = W i) : k_flat V n = k_flat W n := by
  unfold k_flat
  congr 1
  exact List.map_congr_left fun j hj => h j (List.mem_range.mp hj)
theorem k_h0_add {cG cI : ClassId} {a aG i q : Nat} {f : Nat → Option Nat} {g : Nat → Nat} {W : Nat → va_W} {w : va_W} (h : k_H6 cI f g (fun _ => k_S0) W i) (hw : k_isS cI q k_S0 w) : k_h0 cG cI a aG (i + 1) (k_Hc cG a aG 0 0 (va_up f i (some q)) ++ (k_flat W i ++ w)) := by
  refine ⟨va_up f i (some q), fun j => if j = i then q else g j, fun j => if j = i then w else W j, fun j hj => ?_, ?_⟩
  · by_cases e : j = i
    · subst e
      simp only [if_pos rfl]
      exact ⟨by simp [va_up], hw⟩
    · simp only [if_neg e]
      rw [show va_up f i (some q) j = f j by simp [va_up, e]]
      exact h j (by omega)
  · rw [k_flat_s]
    simp only [if_true]
    rw [k_flat_cong (W := W) (V := fun j => if j = i then w else W j) (fun j hj => if_neg (by omega))]
theorem k_h0_isH {cG cI : ClassId} {a aG : Nat} {w : va_W} (h : k_h0 cG cI a aG 6 w) : k_isH cG cI a [] w := by
  obtain ⟨f, g, W, h1, rfl⟩ := h
  exact ⟨aG, 0, f, g, fun _ => k_S0, W, ⟨by decide, by decide, fun k hk => absurd hk (Nat.not_lt_zero k)⟩, h1, rfl⟩

