/-! THE LAW'S ENTRY -/
theorem law_sh0 : Op.cmpValue (FP.dcmp (k_sh k_S0.2.2.1) FP.dconst1) .l = 0 := by
  rw [show k_sh k_S0.2.2.1 = FP.dconst1 from k_sh_0 rfl]
  decide +kernel
theorem law_ty0 : k_ty k_S0.1 ≤ 72 := by decide +kernel
theorem law_lm12 : ∀ t, t < 13 → k_lm k_S0.1 k_S0.2.1 (-1) t = 0 := by decide +kernel
theorem law_T0 : k_T k_S0.1 k_S0.2.1 = 12 := k_T_eq (by decide) (by rw [law_lm12 12 (by decide)]; decide) (fun u hu => by omega)
theorem law_lm0 : k_lm k_S0.1 k_S0.2.1 (-1) (k_T k_S0.1 k_S0.2.1) = 0 := by
  rw [law_T0]
  exact law_lm12 12 (by decide)
set_option maxHeartbeats 1000000 in
set_option maxRecDepth 100000 in
theorem law_in {p9 : Program} {l : Launch} {e9 : Env} {R : Room} {s9 : State} {m9 : MethodId} {args : Array Value} {below : List Frame} {meth : Method} {c9 : Code} {Q : State → Prop} {D : va_G} {tys : List (ClassId × FieldType)} {A : Nat → Prop} {Z : (Nat → Prop) → State → Heap → Prop} {b LL : Nat} {xs : Nat → Int32} (C : q_C p9 s9 m9 args c9 cL_law 12 wsL_law RL D tys Z A) (hZ : q_St Z) {cI cG : ClassId} (hI : tys[0]? = some (cI, .int)) (hG : tys[1]? = some (cG, .object "SortCases$State")) (hN : q_Ns Z) {tL tH : Nat} (hVs : q_Vs Z tL tH) (hSc : q_Sc Z b LL xs) (hR : R = ({ frames := 11, cells := 600172, slots := 7300668, locals := 396 } : Room)) (hLL : LL ≤ 260) {x aO aY aN aT aK aB aL aS naB naL naS aR : Nat} {wX : va_W} {wO : va_W} {wA : va_W} {wB : va_W} {wL : va_W} {wH : va_W} {vO : va_W} {vA : va_W} {vB : va_W} {vL : va_W} {wT : va_W} {wK : va_W} {wAr : va_W} (rX : k_isX cI x aO aY aN ((nI 0)) aT aK wX) (rO : k_isO cI aO aB aL aS ((k_S0.2.2.2)) wO) (rA : k_isA cI aS ((k_S0.2.2.2)) wA) (rB : k_isB cI aB ((k_S0.1)) ((k_S0.2.1)) wB) (rL : k_isL cI aL ((k_S0.2.2.1)) wL) (rH : k_isH cG cI aY (([] : List k_S)) wH) (gO : k_isO cI aN naB naL naS ((k_S0.2.2.2)) vO) (gA : k_isA cI naS ((k_S0.2.2.2)) vA) (gB : k_isB cI naB ((k_S0.1)) ((k_S0.2.1)) vB) (gL : k_isL cI naL ((k_S0.2.2.1)) vL) (rT : k_isT cI aT (([] : List Nat)) wT) (rK : k_isB cI aK ((k_bi 12 0)) 0 wK) (rAr : k_isAr cI aR 1 wAr) (kx : ∀ Rs', q_V p9 l e9 R s9 m9 args below meth c9 D A 12 Q 600172 7300668 272 [(0, .ref b)] [] Rs') : q_V p9 l e9 R s9 m9 args below meth c9 D A 12 Q 73 3672 13 [(2, .ref aR), (1, .ref x), (0, .ref b)] [] [wX, wO, wA, wB, wL, wH, vO, vA, vB, vL, wT, wK, wAr] := by
  have hcI := hI
  have hcG := hG
  have B : R = ({ frames := 11, cells := 600172, slots := 7300668, locals := 396 } : Room) ∧ True := ⟨hR, trivial⟩
  have hts := C.2.2.2.2.1
  refine q_aload_n C dL_law_13 14 1 rfl rfl ?_
  refine q_callV (k := 0) (ci := 5) (n := 0) (rest := []) (Rr := [wH, wT, wK, wAr]) C rfl (k_isX_recv rX) rfl (c_X6_keep l hZ hI hN x aO aY aN ((nI 0)) aT aK wX rX aB aL aS ((k_S0.2.2.2)) wO rO wA rA ((k_S0.1)) ((k_S0.2.1)) wB rB ((k_S0.2.2.1)) wL rL naB naL naS ((k_S0.2.2.2)) vO gO vA gA ((k_S0.1)) ((k_S0.2.1)) vB gB ((k_S0.2.2.1)) vL gL) gL_law_X6_keep rfl rfl rfl (by decide +kernel) B.1 ⟨Nat.le_of_ble_eq_true rfl, Nat.le_of_ble_eq_true rfl⟩ rfl rfl (Nat.le_of_ble_eq_true rfl) dL_law_14 ⟨(Nat.le_of_ble_eq_true rfl), (Nat.le_of_ble_eq_true rfl)⟩ [0, 1, 2, 3, 4, 6, 7, 8, 9] [5, 10, 11, 12] (by decide : ([0, 1, 2, 3, 4, 6, 7, 8, 9] ++ ([5, 10, 11, 12] : List Nat)).Perm (List.range 13)) rfl rfl 17 rfl (fun v0 R0 t0 ht0 hp0 => ?_)
  obtain ⟨rfl, wX_14, hwX_14, wnO_14, hwnO_14, wnA_14, hwnA_14, wnB_14, hwnB_14, wnL_14, hwnL_14, rfl⟩ := hp0
  refine q_eqs (st' := [.int (nI (((k_S0.2.2.1)).length))]) rfl ?_
  refine q_reord [0, 1, 2, 3, 4, 9, 5, 6, 7, 8, 10, 11, 12] (by decide : ([0, 1, 2, 3, 4, 9, 5, 6, 7, 8, 10, 11, 12] : List Nat).Perm (List.range 13)) (Rs' := [wX_14, wO, wA, wB, wL, wH, wnO_14, wnA_14, wnB_14, wnL_14, wT, wK, wAr]) rfl rfl ?_
  refine q_eqs (st' := [.int (nI 0)]) (by rw [show nI (((k_S0.2.2.1)).length) = nI 0 from rfl]) ?_
  refine q_if_ne C dL_law_17 20 45 rfl (by decide) (q_eq0 (by omega)) (fun h17 => False.elim (by first | omega | simp_all)) (fun h17 => ?_)
  refine q_aload_n C dL_law_20 21 1 rfl rfl ?_
  refine q_callV (k := 0) (ci := 5) (n := 0) (rest := []) (Rr := [wB, wH, wnO_14, wnA_14, wnB_14, wnL_14, wT, wK, wAr]) C rfl (k_isX_recv hwX_14) rfl (c_X6_rightShare l hZ hI hN x aO aY aN ((nI 1)) aT aK wX_14 hwX_14 aB aL aS ((k_S0.2.2.2)) wO rO wA rA ((k_S0.2.2.1)) wL rL) gL_law_X6_rightShare rfl rfl rfl (by decide +kernel) B.1 ⟨Nat.le_of_ble_eq_true rfl, Nat.le_of_ble_eq_true rfl⟩ rfl rfl (Nat.le_of_ble_eq_true rfl) dL_law_21 ⟨(Nat.le_of_ble_eq_true rfl), (Nat.le_of_ble_eq_true rfl)⟩ [0, 1, 2, 4] [3, 5, 6, 7, 8, 9, 10, 11, 12] (by decide : ([0, 1, 2, 4] ++ ([3, 5, 6, 7, 8, 9, 10, 11, 12] : List Nat)).Perm (List.range 13)) rfl rfl 24 rfl (fun v0 R0 t0 ht0 hp0 => ?_)
  obtain ⟨rfl, rfl⟩ := hp0
  refine q_eqs (st' := [.double (k_sh ((k_S0.2.2.1)))]) rfl ?_
  refine q_reord [0, 1, 2, 4, 3, 5, 6, 7, 8, 9, 10, 11, 12] (by decide : ([0, 1, 2, 4, 3, 5, 6, 7, 8, 9, 10, 11, 12] : List Nat).Perm (List.range 13)) (Rs' := [wX_14, wO, wA, wB, wL, wH, wnO_14, wnA_14, wnB_14, wnL_14, wT, wK, wAr]) rfl rfl ?_
  refine q_dconst1 C dL_law_24 25 rfl ?_
  refine q_dcmp C dL_law_25 26 rfl ?_
  refine q_if_ne C dL_law_26 29 45 rfl (by decide) Iff.rfl (fun h26 => False.elim (h26 law_sh0)) (fun h26 => ?_)
  refine q_aload_n C dL_law_29 30 1 rfl rfl ?_
  refine q_callV (k := 0) (ci := 5) (n := 0) (rest := []) (Rr := [wL, wH, wnO_14, wnA_14, wnB_14, wnL_14, wT, wAr]) C rfl (k_isX_recv hwX_14) rfl (c_X6_sortedIn l hZ hI hN x aO aY aN ((nI 1)) aT aK wX_14 hwX_14 aB aL aS ((k_S0.2.2.2)) wO rO wA rA ((k_S0.1)) ((k_S0.2.1)) wB rB ((k_bi 12 0)) 0 wK rK law_ty0) gL_law_X6_sortedIn rfl rfl rfl (by decide +kernel) B.1 ⟨Nat.le_of_ble_eq_true rfl, Nat.le_of_ble_eq_true rfl⟩ rfl rfl (Nat.le_of_ble_eq_true rfl) dL_law_30 ⟨(Nat.le_of_ble_eq_true rfl), (Nat.le_of_ble_eq_true rfl)⟩ [0, 1, 2, 3, 11] [4, 5, 6, 7, 8, 9, 10, 12] (by decide : ([0, 1, 2, 3, 11] ++ ([4, 5, 6, 7, 8, 9, 10, 12] : List Nat)).Perm (List.range 13)) rfl rfl 33 rfl (fun v0 R0 t0 ht0 hp0 => ?_)
  obtain ⟨rfl, wk_30, hwk_30, rfl⟩ := hp0
  refine q_eqs (st' := [.int (nI (k_lm ((k_S0.1)) ((k_S0.2.1)) (-1) (k_T ((k_S0.1)) ((k_S0.2.1)))))]) rfl ?_
  refine q_reord [0, 1, 2, 3, 5, 6, 7, 8, 9, 10, 11, 4, 12] (by decide : ([0, 1, 2, 3, 5, 6, 7, 8, 9, 10, 11, 4, 12] : List Nat).Perm (List.range 13)) (Rs' := [wX_14, wO, wA, wB, wL, wH, wnO_14, wnA_14, wnB_14, wnL_14, wT, wk_30, wAr]) rfl rfl ?_
  refine q_eqs (st' := [.int (nI 0)]) (by rw [show nI (k_lm ((k_S0.1)) ((k_S0.2.1)) (-1) (k_T ((k_S0.1)) ((k_S0.2.1)))) = nI 0 from congrArg nI law_lm0]) ?_
  refine q_if_ne C dL_law_33 36 45 rfl (by decide) (q_eq0 (by omega)) (fun h33 => False.elim (by first | omega | simp_all)) (fun h33 => ?_)
  refine q_aload_n C dL_law_36 37 1 rfl rfl ?_
  refine q_iconst (v := nI 0) C dL_law_37 38 rfl (by decide) ?_
  refine q_callV (k := 0) (ci := 5) (n := 1) (rest := []) (Rr := [wB, wL, wH, wnO_14, wnA_14, wnB_14, wnL_14, wT, wk_30, wAr]) C rfl (k_isX_recv hwX_14) rfl (c_X6_stopped_b l hZ hI hN x aO aY aN ((nI 1)) aT aK wX_14 hwX_14 aB aL aS ((k_S0.2.2.2)) wO rO wA rA 0 (by omega)) gL_law_X6_stopped rfl rfl rfl (by decide +kernel) B.1 ⟨Nat.le_of_ble_eq_true rfl, Nat.le_of_ble_eq_true rfl⟩ rfl rfl (Nat.le_of_ble_eq_true rfl) dL_law_38 ⟨(Nat.le_of_ble_eq_true rfl), (Nat.le_of_ble_eq_true rfl)⟩ [0, 1, 2] [3, 4, 5, 6, 7, 8, 9, 10, 11, 12] (by decide : ([0, 1, 2] ++ ([3, 4, 5, 6, 7, 8, 9, 10, 11, 12] : List Nat)).Perm (List.range 13)) rfl rfl 41 rfl (fun v0 R0 t0 ht0 hp0 => ?_)
  obtain ⟨rfl, rfl⟩ := hp0
  refine q_eqs (st' := [.int (((k_S0.2.2.2)) (10 + 0))]) rfl ?_
  refine q_eqR (Rs' := [wX_14, wO, wA, wB, wL, wH, wnO_14, wnA_14, wnB_14, wnL_14, wT, wk_30, wAr]) rfl ?_
  refine q_eqs (st' := [.int (-1)]) (by rw [show ((k_S0.2.2.2)) (10 + 0) = -1 from rfl]) ?_
  refine q_iconst (v := -1) C dL_law_41 42 rfl (by decide) ?_
  refine q_icmp_eq (P := True) C dL_law_42 45 47 rfl (by decide) ⟨fun _ => trivial, fun _ => rfl⟩ (fun h42 => ?_) (fun h42 => False.elim (by first | omega | simp_all))
  refine q_iconst (v := nI 0) C dL_law_47 48 rfl (by decide) ?_
  refine q_istore_n C dL_law_48 49 rfl [(3, .int (nI 0)), (2, .ref aR), (1, .ref x), (0, .ref b)] (by decide) rfl ?_
  refine q_sub (L' := [(3, .int (nI 0)), (2, .ref aR), (1, .ref x), (0, .ref b)]) [0, 1, 2, 3] rfl ?_
  exact law_loop C hZ hI hG hN hVs hSc hR hLL hwX_14 rO rA rB rL rH hwnO_14 hwnA_14 hwnB_14 hwnL_14 rT hwk_30 rAr k_Jv_0 (fun T hT => absurd hT List.not_mem_nil) (Nat.zero_le 5) k_Jv_0 kx
  
set_option maxHeartbeats 1000000 in
set_option maxRecDepth 100000 in
theorem law_main {p : Program} {l : Launch} {e : Env} {s : State} {m : MethodId} {below : List Frame} {meth : Method} {c : Code} {Q : State → Prop} {D : va_G} {tys : List (ClassId × FieldType)} {Z : (Nat → Prop) → State → Heap → Prop} {b LL : Nat} {xs : Nat → Int32} (hu : ∀ (k : Nat) (w : Cond), law_uneed[k]? = some w → w.before #[Value.ref b] s = true) (C : q_C p s m #[Value.ref b] c cL_law 12 wsL_law RL D tys Z (fun q => s.heap.size ≤ q)) (hZ : q_St Z) {cI cG : ClassId} (hI : tys[0]? = some (cI, .int)) (hG : tys[1]? = some (cG, .object "SortCases$State")) (hN : q_Ns Z) (hAO : q_Na Z) {tL tH : Nat} (hVs : q_Vs Z tL tH) (hSc : q_Sc Z b LL xs) (hLL : LL ≤ 260) (kx : ∀ Rs', q_V p l e room_1 s m #[Value.ref b] below meth c D (fun q => s.heap.size ≤ q) 12 Q 600172 7300668 272 [(0, .ref b)] [] Rs') : q_V p l e room_1 s m #[Value.ref b] below meth c D (fun q => s.heap.size ≤ q) 12 Q 0 0 0 [(0, .ref b)] [] [] := by
  have hcI := hI
  have hcG := hG
  refine q_new (rmC := room_1) (ci := 5) (fs := [.null, .null, .null, .int 0, .null, .null]) C inlX6 tyX6 tyX6_ok (hu 6 _ rfl) (hu 5 _ rfl) (hu 7 _ rfl) rfl (by (intro j hj; obtain rfl | rfl | rfl | rfl | rfl | rfl : j = 0 ∨ j = 1 ∨ j = 2 ∨ j = 3 ∨ j = 4 ∨ j = 5 := by omega) <;> exact rfl) rfl (Nat.le_of_ble_eq_true rfl) (Nat.le_of_ble_eq_true rfl) dL_law_0 3 rfl (fun x => ?_)
  refine q_dup C dL_law_3 4 rfl rfl ?_
  refine q_callI (rmC := room_1) (n := 0) (As := []) (rest := [.ref x]) (Rr := []) C (c_X6_init l hZ hI hN hG hAO x [(x, .inr (5, [.null, .null, .null, .int 0, .null, .null]))] rfl) gL_law_X6_init rfl rfl rfl (hu 7 _ rfl) (hu 8 _ rfl) (hu 9 _ rfl) rfl (by decide +kernel) rfl ⟨(Nat.le_of_ble_eq_true rfl), (Nat.le_of_ble_eq_true rfl)⟩ rfl rfl (Nat.le_of_ble_eq_true rfl) dL_law_4 ⟨(Nat.le_of_ble_eq_true rfl), (Nat.le_of_ble_eq_true rfl)⟩ [0] [] (by decide : ([0] ++ ([] : List Nat)).Perm (List.range 1)) rfl rfl 7 rfl (fun v0 R0 t0 ht0 hp0 => ?_)
  obtain ⟨rfl, aO, aY, aN, aT, aK, wX, wS, wH, wN1, wT, wK, rX, ⟨aB, aL, aS, wO, wA, wB, wL, rO, rA, rB, rL, rfl⟩, rH, ⟨naB, naL, naS, vO, vA, vB, vL, gO, gA, gB, gL, rfl⟩, rT, rK, rfl⟩ := hp0
  refine q_eqs (st' := [.ref x]) rfl ?_
  refine q_astore_n C dL_law_7 8 rfl [(1, .ref x), (0, .ref b)] (by decide) rfl ?_
  refine q_bipush (v := nI 12) C dL_law_8 10 rfl (by decide) ?_
  refine q_newa (rmC := room_1) (N := 12) C hcI (hu 10 _ rfl) rfl dL_law_10 12 rfl (by decide) (by decide) (by decide) (Nat.le_of_ble_eq_true rfl) (Nat.le_of_ble_eq_true rfl) (fun aR => ?_)
  refine q_astore_n C dL_law_12 13 rfl [(2, .ref aR), (1, .ref x), (0, .ref b)] (by decide) rfl ?_
  refine q_resp (Rs' := [wX, wO, wA, wB, wL, wH, vO, vA, vB, vL, wT, wK, [(aR, .inl (cI, 12, .inl (fun _ => 0)))]]) (by simp) ?_
  exact law_in (R := room_1) C hZ hI hG hN hVs hSc rfl hLL rX rO rA rB rL rH gO gA gB gL rT rK ⟨_, rfl⟩ kx
