/-! THE DIGEST -/
section QD
variable {p : Program} {l : Launch} {e : Env} {R : Room} {s : State} {m : MethodId} {args : Array Value} {below : List Frame} {meth : Method} {c : Code} {Q : State → Prop}
variable {D : va_G} {tys : List (ClassId × FieldType)} {A : Nat → Prop} {Z : (Nat → Prop) → State → Heap → Prop} {cc : ByteArray} {nL : Nat} {Ts : List Cond} {own : String} {cells slots pc : Nat} {L : List (Nat × Value)} {st : List Value} {Rs : List va_W}
theorem q_d2raw (C : q_C p s m args c cc nL Ts own D tys Z A) {index : Nat} (hlink : (Cond.methodLink own index ⟨"java/lang/Double", "doubleToRawLongBits", "(D)J"⟩).before args s = true) (hnat : (Cond.native ⟨"java/lang/Double", "doubleToRawLongBits", "(D)J"⟩).before args s = true) (hstat : (Cond.static ⟨"java/lang/Double", "doubleToRawLongBits", "(D)J"⟩).before args s = true) (hinit : (Cond.initialized "java/lang/Double").before args s = true) {rmC : Room} (hRC : R = rmC) (hf : 1 ≤ rmC.frames) (hlo : (st.map fun v => v.category).sum + 15 ≤ rmC.locals) {x : UInt64} (d : decode cc pc = .ok (.invokestatic index, 3)) (np : Nat) (hnp : pc + 3 = np)
    (kk : q_V p l e R s m args below meth c D A nL Q cells slots np L (.long x.toInt64 :: st) Rs) : q_V p l e R s m args below meth c D A nL Q cells slots pc L (.double x :: st) Rs := by
  subst hnp; subst hRC
  exact fun H locs ls hP hD hS hl => vn_d2l C.1 C.2.1 (by rw [hl.1]; exact C.2.2.1) C.2.2.2.1 hlink hnat hstat hinit hf hlo d (kk H locs ls hP hD hS hl)
end QD
def k_nan0 (x : UInt64) : Prop := Op.cmpValue (FP.dcmp x x) .l = 0
theorem k_shq_nan : ∀ b : Fin 41, ∀ a : Fin 41, 0 < b.1 → a.1 ≤ b.1 → k_nan0 (k_shq a.1 b.1) := by unfold k_nan0 k_shq; decide +kernel
theorem k_sh_nan {ln : List (Nat × Nat)} (h : ln.length ≤ 40) : k_nan0 (k_sh ln) := by
  by_cases e : ln.length = 0
  · rw [k_sh_0 e]; unfold k_nan0; decide +kernel
  · rw [k_sh_n e]
    exact k_shq_nan ⟨ln.length, by omega⟩ ⟨ln.length - k_er ln, by omega⟩ (by show 0 < ln.length; omega) (Nat.sub_le _ _)
theorem k_sh_bits {ln : List (Nat × Nat)} (h : ln.length ≤ 40) : (∃ n, n ≤ 8 ∧ k_nice (k_sh ln) n) ∨ ((k_sh ln).toInt64 = 0 ∧ ¬ 0 < Op.cmpValue (FP.dcmp (k_sh ln) FP.dconst0) .g) := by
  by_cases e : ln.length = 0
  · rw [k_sh_0 e]; exact Or.inl ⟨0, Nat.zero_le _, k_nice_1⟩
  · rw [k_sh_n e]
    by_cases e2 : ln.length - k_er ln = 0
    · rw [e2]
      exact Or.inr (k_nice_0 ⟨ln.length, by omega⟩ (by show 0 < ln.length; omega))
    · obtain ⟨n, hn⟩ := k_nice_all ⟨ln.length, by omega⟩ ⟨ln.length - k_er ln, by omega⟩ (by show 0 < ln.length - k_er ln; omega) (Nat.sub_le _ _)
      exact Or.inl ⟨n.1, by omega, hn⟩
def k_dgA (bx : k_Bx) (at0 : Nat) (ln : List (Nat × Nat)) (sc : Nat → Int32) (sz : Nat) : Int64 := k_hl bx ln sc (k_hbs bx at0 ln sc (k_hf (k_tc bx at0 ln sc sz) 3863 18) 12)
def k_dgB (bx : k_Bx) (at0 : Nat) (ln : List (Nat × Nat)) (sc : Nat → Int32) (sz : Nat) (tl : Nat) : Int64 :=
  31 * (31 * (31 * (31 * (31 * (31 * k_dgA bx at0 ln sc sz + (sc 10).toInt64) + (sc 11).toInt64) + (nI (k_lm bx at0 (-1) (k_T bx at0))).toInt64) + (nI (k_wr (k_bs bx at0 (-1) (k_T bx at0)).1)).toInt64) + (k_sh ln).toInt64) + (nI tl).toInt64
/-- the digest of a whole object -/
def k_dig (bx : k_Bx) (at0 : Nat) (ln : List (Nat × Nat)) (sc : Nat → Int32) (sz : Nat) (tx : List Nat) : Int64 := k_hf (fun i => nI (k_at tx i)) (k_dgB bx at0 ln sc sz tx.length) tx.length
theorem k_dig_of {bx : k_Bx} {at0 : Nat} {ln : List (Nat × Nat)} {sc : Nat → Int32} {sz : Nat} {tx : List Nat} {u : Int64} {i : Nat} (h : u = k_hf (fun i => nI (k_at tx i)) (k_dgB bx at0 ln sc sz tx.length) i) (hi : i = tx.length) : k_dig bx at0 ln sc sz tx = u := by
  subst hi; exact h.symm
