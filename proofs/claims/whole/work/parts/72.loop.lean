/-! THE LAW'S LOOP -/
theorem law_and31 (v : Int32) : ∃ k, k < 32 ∧ v &&& nI 31 = nI k := by
  refine ⟨(v.toBitVec &&& 31#32).toNat, ?_, ?_⟩
  · rw [BitVec.toNat_and]
    exact Nat.lt_of_le_of_lt Nat.and_le_right (by decide)
  · apply Int32.toBitVec_inj.mp
    apply BitVec.eq_of_toNat_eq
    show (v.toBitVec &&& 31#32).toNat = (BitVec.ofNat 32 (v.toBitVec &&& 31#32).toNat).toNat
    rw [BitVec.toNat_ofNat, Nat.mod_eq_of_lt (BitVec.isLt _)]
theorem law_isub : ∀ n, n < 1537 → (nI n - nI 3).toInt = (n : Int) - 3 := by decide +kernel
theorem law_gt {LL i : Nat} (hL : LL ≤ 1536) (hi : i < 2 ^ 31) : nI LL - nI 3 < nI i ↔ LL < i + 3 := by
  rw [Int32.lt_iff_toInt_lt, law_isub LL (by omega), nI_toInt hi]
  omega
set_option maxHeartbeats 1000000 in
theorem law_step {p9 : Program} {l : Launch} {e9 : Env} {R : Room} {s9 : State} {m9 : MethodId} {args : Array Value} {below : List Frame} {meth : Method} {c9 : Code} {Q : State → Prop} {D : va_G} {tys : List (ClassId × FieldType)} {A : Nat → Prop} {Z : (Nat → Prop) → State → Heap → Prop} {b LL : Nat} {xs : Nat → Int32} {x y o : Nat} (C : q_C p9 s9 m9 args c9 cL_law 9 wsL_law RL D tys Z A) (hZ : q_St Z) {cI cG cJ : ClassId} (hI : tys[0]? = some (cI, .int)) (hG : tys[1]? = some (cG, .object "SortCases$State")) (hJ : tys[2]? = some (cJ, .long)) (hN : q_Ns Z) {ad aw av : Nat → Nat} {tK : Nat} (hKs : q_Ks Z ad aw av tK) {tL tH : Nat} (hVs : q_Vs Z tL tH) (hXs : q_Xs Z) (hlT : l.stackTraces = false) (hXb : va_X b LL xs s9 s9.heap) (hbl : b < s9.heap.size) (hbA : ¬ A b) (hR : R = ({ frames := 12, cells := 601024, slots := 7293034, locals := 454 } : Room)) (hL : LL ≤ 1536) {i : Nat} {Rs : List va_W} (hi : i + 3 ≤ LL) (hRs : law_I cG cI cJ x y o Rs) (kk : ∀ Rs', law_I cG cI cJ x y o Rs' → q_V p9 l e9 R s9 m9 args below meth c9 D A 9 Q (80 + i + 1) (6951 + 2 * i + 6) 1304 [(4, .int (nI i)), (3, .ref o), (2, .ref y), (1, .ref x), (0, .ref b)] [] Rs') : q_V p9 l e9 R s9 m9 args below meth c9 D A 9 Q (80 + i) (6951 + 2 * i) 32 [(4, .int (nI i)), (3, .ref o), (2, .ref y), (1, .ref x), (0, .ref b)] [] Rs := by
  obtain ⟨v0, hxv0⟩ : ∃ v0, xs i = v0 := ⟨_, rfl⟩
  refine q_aload_n C dL_law_32 33 4 rfl rfl ?_
  refine q_iload C dL_law_33 35 0 rfl rfl ?_
  refine q_sld (v := v0) C hXb hbl hbA i rfl (by omega) (by omega) hxv0 dL_law_35 36 rfl ?_
  refine q_bipush (v := nI 31) C dL_law_36 38 rfl (by decide) ?_
  obtain ⟨k, hk, hvk⟩ := law_and31 v0
  refine q_iand (v := nI k) C dL_law_38 39 rfl hvk ?_
  by_cases hb25 : 25 ≤ k
  · refine q_tableOut C dL_law_39 1304 (Or.inr (by rw [nI_toInt (by omega)]; omega)) (by decide) ?_
    exact q_widen (by omega) (by omega) (kk _ hRs)
  · obtain rfl | rfl | rfl | rfl | rfl | rfl | rfl | rfl | rfl | rfl | rfl | rfl | rfl | rfl | rfl | rfl | rfl | rfl | rfl | rfl | rfl | rfl | rfl | rfl | rfl : k = 0 ∨ k = 1 ∨ k = 2 ∨ k = 3 ∨ k = 4 ∨ k = 5 ∨ k = 6 ∨ k = 7 ∨ k = 8 ∨ k = 9 ∨ k = 10 ∨ k = 11 ∨ k = 12 ∨ k = 13 ∨ k = 14 ∨ k = 15 ∨ k = 16 ∨ k = 17 ∨ k = 18 ∨ k = 19 ∨ k = 20 ∨ k = 21 ∨ k = 22 ∨ k = 23 ∨ k = 24 := by omega
    · refine q_tableIn (off := 113) C dL_law_39 152 (by decide) (by decide) (by decide) (by decide) ?_
      exact law_c0 C hZ hI hG hJ hN hKs hVs hXs hlT hXb hbl hbA hR hi hL hRs kk
    · refine q_tableIn (off := 169) C dL_law_39 208 (by decide) (by decide) (by decide) (by decide) ?_
      exact law_c1 C hZ hI hG hJ hN hKs hVs hXs hlT hXb hbl hbA hR hi hL hRs kk
    · refine q_tableIn (off := 225) C dL_law_39 264 (by decide) (by decide) (by decide) (by decide) ?_
      exact law_c2 C hZ hI hG hJ hN hKs hVs hXs hlT hXb hbl hbA hR hi hL hRs kk
    · refine q_tableIn (off := 281) C dL_law_39 320 (by decide) (by decide) (by decide) (by decide) ?_
      exact law_c3 C hZ hI hG hJ hN hKs hVs hXs hlT hXb hbl hbA hR hi hL hRs kk
    · refine q_tableIn (off := 325) C dL_law_39 364 (by decide) (by decide) (by decide) (by decide) ?_
      exact law_c4 C hZ hI hG hJ hN hKs hVs hXs hlT hXb hbl hbA hR hi hL hRs kk
    · refine q_tableIn (off := 393) C dL_law_39 432 (by decide) (by decide) (by decide) (by decide) ?_
      exact law_c5 C hZ hI hG hJ hN hKs hVs hXs hlT hXb hbl hbA hR hi hL hRs kk
    · refine q_tableIn (off := 461) C dL_law_39 500 (by decide) (by decide) (by decide) (by decide) ?_
      exact law_c6 C hZ hI hG hJ hN hKs hVs hXs hlT hXb hbl hbA hR hi hL hRs kk
    · refine q_tableIn (off := 517) C dL_law_39 556 (by decide) (by decide) (by decide) (by decide) ?_
      exact law_c7 C hZ hI hG hJ hN hKs hVs hXs hlT hXb hbl hbA hR hi hL hRs kk
    · refine q_tableIn (off := 530) C dL_law_39 569 (by decide) (by decide) (by decide) (by decide) ?_
      exact law_c8 C hZ hI hG hJ hN hKs hVs hXs hlT hXb hbl hbA hR hi hL hRs kk
    · refine q_tableIn (off := 543) C dL_law_39 582 (by decide) (by decide) (by decide) (by decide) ?_
      exact law_c9 C hZ hI hG hJ hN hKs hVs hXs hlT hXb hbl hbA hR hi hL hRs kk
    · refine q_tableIn (off := 587) C dL_law_39 626 (by decide) (by decide) (by decide) (by decide) ?_
      exact law_c10 C hZ hI hG hJ hN hKs hVs hXs hlT hXb hbl hbA hR hi hL hRs kk
    · refine q_tableIn (off := 643) C dL_law_39 682 (by decide) (by decide) (by decide) (by decide) ?_
      exact law_c11 C hZ hI hG hJ hN hKs hVs hXs hlT hXb hbl hbA hR hi hL hRs kk
    · refine q_tableIn (off := 699) C dL_law_39 738 (by decide) (by decide) (by decide) (by decide) ?_
      exact law_c12 C hZ hI hG hJ hN hKs hVs hXs hlT hXb hbl hbA hR hi hL hRs kk
    · refine q_tableIn (off := 743) C dL_law_39 782 (by decide) (by decide) (by decide) (by decide) ?_
      exact law_c13 C hZ hI hG hJ hN hKs hVs hXs hlT hXb hbl hbA hR hi hL hRs kk
    · refine q_tableIn (off := 756) C dL_law_39 795 (by decide) (by decide) (by decide) (by decide) ?_
      exact law_c14 C hZ hI hG hJ hN hKs hVs hXs hlT hXb hbl hbA hR hi hL hRs kk
    · refine q_tableIn (off := 800) C dL_law_39 839 (by decide) (by decide) (by decide) (by decide) ?_
      exact law_c15 C hZ hI hG hJ hN hKs hVs hXs hlT hXb hbl hbA hR hi hL hRs kk
    · refine q_tableIn (off := 868) C dL_law_39 907 (by decide) (by decide) (by decide) (by decide) ?_
      exact law_c16 C hZ hI hG hJ hN hKs hVs hXs hlT hXb hbl hbA hR hi hL hRs kk
    · refine q_tableIn (off := 936) C dL_law_39 975 (by decide) (by decide) (by decide) (by decide) ?_
      exact law_c17 C hZ hI hG hJ hN hKs hVs hXs hlT hXb hbl hbA hR hi hL hRs kk
    · refine q_tableIn (off := 1004) C dL_law_39 1043 (by decide) (by decide) (by decide) (by decide) ?_
      exact law_c18 C hZ hI hG hJ hN hKs hVs hXs hlT hXb hbl hbA hR hi hL hRs kk
    · refine q_tableIn (off := 1060) C dL_law_39 1099 (by decide) (by decide) (by decide) (by decide) ?_
      exact law_c19 C hZ hI hG hJ hN hKs hVs hXs hlT hXb hbl hbA hR hi hL hRs kk
    · refine q_tableIn (off := 1116) C dL_law_39 1155 (by decide) (by decide) (by decide) (by decide) ?_
      exact law_c20 C hZ hI hG hJ hN hKs hVs hXs hlT hXb hbl hbA hR hi hL hRs kk
    · refine q_tableIn (off := 1184) C dL_law_39 1223 (by decide) (by decide) (by decide) (by decide) ?_
      exact law_c21 C hZ hI hG hJ hN hKs hVs hXs hlT hXb hbl hbA hR hi hL hRs kk
    · refine q_tableIn (off := 1197) C dL_law_39 1236 (by decide) (by decide) (by decide) (by decide) ?_
      exact law_c22 C hZ hI hG hJ hN hKs hVs hXs hlT hXb hbl hbA hR hi hL hRs kk
    · refine q_tableIn (off := 1210) C dL_law_39 1249 (by decide) (by decide) (by decide) (by decide) ?_
      exact law_c23 C hZ hI hG hJ hN hKs hVs hXs hlT hXb hbl hbA hR hi hL hRs kk
    · refine q_tableIn (off := 1251) C dL_law_39 1290 (by decide) (by decide) (by decide) (by decide) ?_
      exact law_c24 C hZ hI hG hJ hN hKs hVs hXs hlT hXb hbl hbA hR hi hL hRs kk
theorem law_loop {p9 : Program} {l : Launch} {e9 : Env} {R : Room} {s9 : State} {m9 : MethodId} {args : Array Value} {below : List Frame} {meth : Method} {c9 : Code} {Q : State → Prop} {D : va_G} {tys : List (ClassId × FieldType)} {A : Nat → Prop} {Z : (Nat → Prop) → State → Heap → Prop} {b LL : Nat} {xs : Nat → Int32} {x y o : Nat} (C : q_C p9 s9 m9 args c9 cL_law 9 wsL_law RL D tys Z A) (hZ : q_St Z) {cI cG cJ : ClassId} (hI : tys[0]? = some (cI, .int)) (hG : tys[1]? = some (cG, .object "SortCases$State")) (hJ : tys[2]? = some (cJ, .long)) (hN : q_Ns Z) {ad aw av : Nat → Nat} {tK : Nat} (hKs : q_Ks Z ad aw av tK) {tL tH : Nat} (hVs : q_Vs Z tL tH) (hXs : q_Xs Z) (hlT : l.stackTraces = false) (hXb : va_X b LL xs s9 s9.heap) (hbl : b < s9.heap.size) (hbA : ¬ A b) (hR : R = ({ frames := 12, cells := 601024, slots := 7293034, locals := 454 } : Room)) (hL : LL ≤ 1536) (kx : ∀ Rs', q_V p9 l e9 R s9 m9 args below meth c9 D A 9 Q (601024) (7293034) 1310 [(0, .ref b)] [] Rs') : ∀ (n i : Nat) (Rs : List va_W), LL + 3 ≤ i + n → i ≤ LL + 2 → law_I cG cI cJ x y o Rs → q_V p9 l e9 R s9 m9 args below meth c9 D A 9 Q (80 + i) (6951 + 2 * i) 23 [(4, .int (nI i)), (3, .ref o), (2, .ref y), (1, .ref x), (0, .ref b)] [] Rs := by
  intro n
  induction n with
  | zero => intro i Rs h1 h2; omega
  | succ n ih =>
    intro i Rs h1 h2 hRs
    refine q_iload C dL_law_23 25 0 rfl rfl ?_
    refine q_aload_n C dL_law_25 26 4 rfl rfl ?_
    refine q_slen (v := nI LL) C hXb hbl hbA rfl dL_law_26 27 rfl ?_
    refine q_iconst (v := nI 3) C dL_law_27 28 rfl (by decide) ?_
    refine q_isub (v := nI LL - nI 3) C dL_law_28 29 rfl rfl ?_
    refine q_icmp_gt C dL_law_29 32 1310 rfl (by decide) (law_gt hL (by omega)) (fun h => ?_) (fun h => ?_)
    · refine q_sub (L' := [(0, .ref b)]) [4] rfl ?_
      exact q_widen (by omega) (by omega) (kx Rs)
    · refine law_step C hZ hI hG hJ hN hKs hVs hXs hlT hXb hbl hbA hR hL (by omega) hRs (fun Rs' hRs' => ?_)
      refine q_iinc (v := nI (i + 3)) C dL_law_1304 1307 0 rfl rfl (nI_add i 3) [(4, .int (nI (i + 3))), (3, .ref o), (2, .ref y), (1, .ref x), (0, .ref b)] (by decide) rfl ?_
      refine q_goto C dL_law_1307 23 (by decide) ?_
      refine q_widen (k := 80 + (i + 3)) (n := 6951 + 2 * (i + 3)) (by omega) (by omega) ?_
      exact ih (i + 3) Rs' (by omega) (by omega) hRs'
