set_option maxHeartbeats 1000000 in
set_option maxRecDepth 100000 in
theorem law_c8 {p9 : Program} {l : Launch} {e9 : Env} {R : Room} {s9 : State} {m9 : MethodId} {args : Array Value} {below : List Frame} {meth : Method} {c9 : Code} {Q : State → Prop} {D : va_G} {tys : List (ClassId × FieldType)} {A : Nat → Prop} {Z : (Nat → Prop) → State → Heap → Prop} {b LL : Nat} {xs : Nat → Int32} {x y o i : Nat} {Rs : List va_W} (C : q_C p9 s9 m9 args c9 cL_law 9 wsL_law RL D tys Z A) (hZ : q_St Z) {cI cG cJ : ClassId} (hI : tys[0]? = some (cI, .int)) (hG : tys[1]? = some (cG, .object "SortCases$State")) (hJ : tys[2]? = some (cJ, .long)) (hN : q_Ns Z) {ad aw av : Nat → Nat} {tK : Nat} (hKs : q_Ks Z ad aw av tK) {tL tH : Nat} (hVs : q_Vs Z tL tH) (hXs : q_Xs Z) (hlT : l.stackTraces = false) (hXb : va_X b LL xs s9 s9.heap) (hbl : b < s9.heap.size) (hbA : ¬ A b) (hR : R = ({ frames := 12, cells := 601024, slots := 7293034, locals := 454 } : Room)) (hi : i + 3 ≤ LL) (hL : LL ≤ 1536) (hRs : law_I cG cI cJ x y o Rs) (kk : ∀ Rs', law_I cG cI cJ x y o Rs' → q_V p9 l e9 R s9 m9 args below meth c9 D A 9 Q (80 + i + 1) (6951 + 2 * i + 6) 1304 [(4, .int (nI i)), (3, .ref o), (2, .ref y), (1, .ref x), (0, .ref b)] [] Rs') : q_V p9 l e9 R s9 m9 args below meth c9 D A 9 Q (80 + i) (6951 + 2 * i) 569 [(4, .int (nI i)), (3, .ref o), (2, .ref y), (1, .ref x), (0, .ref b)] [] Rs := by
  have hcI := hI
  have hcG := hG
  have B : R = ({ frames := 12, cells := 601024, slots := 7293034, locals := 454 } : Room) ∧ True := ⟨hR, trivial⟩
  have hts := C.2.2.2.2.1
  obtain ⟨⟨bx, at0, ln, sc⟩, sv, hsn, ⟨sb, sa, sl, ss⟩, ⟨nb, na, nl, ns⟩, tx, fd, g, R1, R2, ⟨aO, aY, aN, aT, aK, aB, aL, aS, naB, naL, naS, kb, ka, wX, wO, wA, wB, wL, wH, vO, vA, vB, vL, wT, wK, rX, ⟨rO, rA, rB, rL⟩, rH, ⟨gO, gA, gB, gL⟩, rT, rK, rfl⟩, ⟨mS, mZ, mV, mN, mU, mD, hh, ⟨zb, za, zl, zs⟩, dx, ps, wP, wQ, wZ, wV, wN, wU, wD, rP, rQ, rZ, rV, rN, rU, rD, rfl⟩, hIv, hIs, q4, q8, hsn6, hl6, rfl⟩ := hRs
  have rO : k_isO cI aO aB aL aS sc wO := rO
  have rA : k_isA cI aS sc wA := rA
  have rB : k_isB cI aB bx at0 wB := rB
  have rL : k_isL cI aL ln wL := rL
  have gO : k_isO cI aN naB naL naS ss vO := gO
  have gA : k_isA cI naS ss vA := gA
  have gB : k_isB cI naB sb sa vB := gB
  have gL : k_isL cI naL sl vL := gL
  have rQ : k_isQ cI mS bx at0 ln sc wQ := rQ
  have rZ : k_isQ cI mZ zb za zl zs wZ := rZ
  have rN : k_isQ cI mN nb na nl ns wN := rN
  have hll : ln.length ≤ 40 := rL.1.1
  have htl : tx.length ≤ 60 := rT.1.1
  obtain ⟨v, hxv⟩ : ∃ v, xs (i + 1) = v := ⟨_, rfl⟩
  obtain ⟨v2, hxv2⟩ : ∃ v2, xs (i + 2) = v2 := ⟨_, rfl⟩
  refine q_eqR (Rs' := [wX, wO, wA, wB, wL, wH, vO, vA, vB, vL, wT, wK, wP, wQ, wZ, wV, wN, wU, wD, [(o, .inl (cJ, 1, .inr (.inl g)))]]) rfl ?_
  refine q_aload_n C dL_law_569 570 3 rfl rfl ?_
  refine q_callV (k := 0) (ci := 5) (n := 0) (rest := []) (Rr := [wO, wA, wB, wL, wH, vO, vA, vB, vL, wK, wP, wQ, wZ, wV, wN, wU, wD, [(o, .inl (cJ, 1, .inr (.inl g)))]]) C rfl (k_isX_recv rX) rfl (c_X6_firstError l hZ hI hN hKs x aO aY aN hsn aT aK wX rX tx wT rT) gL_law_X6_firstError rfl rfl rfl (by decide +kernel) B.1 ⟨Nat.le_of_ble_eq_true rfl, Nat.le_of_ble_eq_true rfl⟩ rfl rfl (Nat.le_of_ble_eq_true rfl) dL_law_570 ⟨(by show (80 + i) + 0 ≤ 601024; omega), (by show (6951 + 2 * i) + 0 ≤ 7293034; omega)⟩ [0, 10] [1, 2, 3, 4, 5, 6, 7, 8, 9, 11, 12, 13, 14, 15, 16, 17, 18, 19] (by decide : ([0, 10] ++ ([1, 2, 3, 4, 5, 6, 7, 8, 9, 11, 12, 13, 14, 15, 16, 17, 18, 19] : List Nat)).Perm (List.range 20)) rfl rfl 573 rfl (fun v0 R0 t0 ht0 hp0 => ?_)
  obtain ⟨rfl, rfl⟩ := hp0
  refine q_eqs (st' := [.int (nI ((k_fr tx 61 0).1))]) rfl ?_
  refine q_reord [0, 2, 3, 4, 5, 6, 7, 8, 9, 10, 1, 11, 12, 13, 14, 15, 16, 17, 18, 19] (by decide : ([0, 2, 3, 4, 5, 6, 7, 8, 9, 10, 1, 11, 12, 13, 14, 15, 16, 17, 18, 19] : List Nat).Perm (List.range 20)) (Rs' := [wX, wO, wA, wB, wL, wH, vO, vA, vB, vL, wT, wK, wP, wQ, wZ, wV, wN, wU, wD, [(o, .inl (cJ, 1, .inr (.inl g)))]]) rfl rfl ?_
  refine q_eqs (st' := [.int (nI ((k_rd tx).1))]) rfl ?_
  refine q_aload_n C dL_law_573 574 2 rfl rfl ?_
  refine q_callV (k := 12) (ci := 6) (n := 0) (rest := [.int (nI ((k_rd tx).1))]) (Rr := [wX, wO, wA, wB, wL, wH, vO, vA, vB, vL, wT, wK, wQ, wZ, wV, wN, [(o, .inl (cJ, 1, .inr (.inl g)))]]) C rfl (k_isP_recv rP) rfl (c_X7_firstError l hZ hI y mS mZ mV mN mU mD fd hh wP rP tx wU rU dx ps wD rD q8) gL_law_X7_firstError rfl rfl rfl (by decide +kernel) B.1 ⟨Nat.le_of_ble_eq_true rfl, Nat.le_of_ble_eq_true rfl⟩ rfl rfl (Nat.le_of_ble_eq_true rfl) dL_law_574 ⟨(by show (80 + i) + 0 ≤ 601024; omega), (by show (6951 + 2 * i) + 0 ≤ 7293034; omega)⟩ [12, 17, 18] [0, 1, 2, 3, 4, 5, 6, 7, 8, 9, 10, 11, 13, 14, 15, 16, 19] (by decide : ([12, 17, 18] ++ ([0, 1, 2, 3, 4, 5, 6, 7, 8, 9, 10, 11, 13, 14, 15, 16, 19] : List Nat)).Perm (List.range 20)) rfl rfl 577 rfl (fun v0 R0 t0 ht0 hp0 => ?_)
  obtain ⟨rfl, wP_574, hwP_574, wD_574, hwD_574, rfl⟩ := hp0
  refine q_eqs (st' := [.int (nI ((k_rd tx).1)), .int (nI ((k_rd tx).1))]) rfl ?_
  refine q_reord [3, 4, 5, 6, 7, 8, 9, 10, 11, 12, 13, 14, 0, 15, 16, 17, 18, 1, 2, 19] (by decide : ([3, 4, 5, 6, 7, 8, 9, 10, 11, 12, 13, 14, 0, 15, 16, 17, 18, 1, 2, 19] : List Nat).Perm (List.range 20)) (Rs' := [wX, wO, wA, wB, wL, wH, vO, vA, vB, vL, wT, wK, wP_574, wQ, wZ, wV, wN, wU, wD_574, [(o, .inl (cJ, 1, .inr (.inl g)))]]) rfl rfl ?_
  refine q_icmp_eq (P := nI ((k_rd tx).1) = nI ((k_rd tx).1)) C dL_law_577 580 1304 rfl (by decide) Iff.rfl (fun h577 => ?_) (fun h577 => False.elim (h577 rfl))
  refine q_sub (L' := [(4, .int (nI i)), (3, .ref o), (2, .ref y), (1, .ref x), (0, .ref b)]) [0, 1, 2, 3, 4] rfl ?_
  refine q_widen (k := 80 + i + 1) (n := 6951 + 2 * i + 6) (by omega) (by omega) ?_
  exact kk _ ⟨(bx, at0, ln, sc), sv, hsn, (sb, sa, sl, ss), (nb, na, nl, ns), tx, upd (upd (upd (upd fd 0 (nI 0)) 10 (q_b (k_rd tx).2)) 9 (nI (k_rd tx).1)) 12 (nI (k_rp tx).length), g, _, _, ⟨_, _, _, _, _, _, _, _, _, _, _, _, _, _, _, _, _, _, _, _, _, _, _, _, _, rX, ⟨rO, rA, rB, rL⟩, rH, ⟨gO, gA, gB, gL⟩, rT, rK, rfl⟩, ⟨_, _, _, _, _, _, _, (zb, za, zl, zs), _, _, _, _, _, _, _, _, _, hwP_574, rQ, rZ, rV, rN, rU, hwD_574, rfl⟩, hIv, hIs, (by rw [pk_un (by decide), pk_un (by decide), pk_un (by decide), pk_un (by decide)]; exact q4), (by rw [pk_un (by decide), pk_un (by decide), pk_un (by decide), pk_un (by decide)]; exact q8), (k_Sn_eq hsn6 (by rw [pk_un (by decide), pk_un (by decide), pk_un (by decide), pk_un (by decide)])), hl6, rfl⟩
  

set_option maxHeartbeats 1000000 in
set_option maxRecDepth 100000 in
theorem law_c9 {p9 : Program} {l : Launch} {e9 : Env} {R : Room} {s9 : State} {m9 : MethodId} {args : Array Value} {below : List Frame} {meth : Method} {c9 : Code} {Q : State → Prop} {D : va_G} {tys : List (ClassId × FieldType)} {A : Nat → Prop} {Z : (Nat → Prop) → State → Heap → Prop} {b LL : Nat} {xs : Nat → Int32} {x y o i : Nat} {Rs : List va_W} (C : q_C p9 s9 m9 args c9 cL_law 9 wsL_law RL D tys Z A) (hZ : q_St Z) {cI cG cJ : ClassId} (hI : tys[0]? = some (cI, .int)) (hG : tys[1]? = some (cG, .object "SortCases$State")) (hJ : tys[2]? = some (cJ, .long)) (hN : q_Ns Z) {ad aw av : Nat → Nat} {tK : Nat} (hKs : q_Ks Z ad aw av tK) {tL tH : Nat} (hVs : q_Vs Z tL tH) (hXs : q_Xs Z) (hlT : l.stackTraces = false) (hXb : va_X b LL xs s9 s9.heap) (hbl : b < s9.heap.size) (hbA : ¬ A b) (hR : R = ({ frames := 12, cells := 601024, slots := 7293034, locals := 454 } : Room)) (hi : i + 3 ≤ LL) (hL : LL ≤ 1536) (hRs : law_I cG cI cJ x y o Rs) (kk : ∀ Rs', law_I cG cI cJ x y o Rs' → q_V p9 l e9 R s9 m9 args below meth c9 D A 9 Q (80 + i + 1) (6951 + 2 * i + 6) 1304 [(4, .int (nI i)), (3, .ref o), (2, .ref y), (1, .ref x), (0, .ref b)] [] Rs') : q_V p9 l e9 R s9 m9 args below meth c9 D A 9 Q (80 + i) (6951 + 2 * i) 582 [(4, .int (nI i)), (3, .ref o), (2, .ref y), (1, .ref x), (0, .ref b)] [] Rs := by
  have hcI := hI
  have hcG := hG
  have B : R = ({ frames := 12, cells := 601024, slots := 7293034, locals := 454 } : Room) ∧ True := ⟨hR, trivial⟩
  have hts := C.2.2.2.2.1
  obtain ⟨⟨bx, at0, ln, sc⟩, sv, hsn, ⟨sb, sa, sl, ss⟩, ⟨nb, na, nl, ns⟩, tx, fd, g, R1, R2, ⟨aO, aY, aN, aT, aK, aB, aL, aS, naB, naL, naS, kb, ka, wX, wO, wA, wB, wL, wH, vO, vA, vB, vL, wT, wK, rX, ⟨rO, rA, rB, rL⟩, rH, ⟨gO, gA, gB, gL⟩, rT, rK, rfl⟩, ⟨mS, mZ, mV, mN, mU, mD, hh, ⟨zb, za, zl, zs⟩, dx, ps, wP, wQ, wZ, wV, wN, wU, wD, rP, rQ, rZ, rV, rN, rU, rD, rfl⟩, hIv, hIs, q4, q8, hsn6, hl6, rfl⟩ := hRs
  have rO : k_isO cI aO aB aL aS sc wO := rO
  have rA : k_isA cI aS sc wA := rA
  have rB : k_isB cI aB bx at0 wB := rB
  have rL : k_isL cI aL ln wL := rL
  have gO : k_isO cI aN naB naL naS ss vO := gO
  have gA : k_isA cI naS ss vA := gA
  have gB : k_isB cI naB sb sa vB := gB
  have gL : k_isL cI naL sl vL := gL
  have rQ : k_isQ cI mS bx at0 ln sc wQ := rQ
  have rZ : k_isQ cI mZ zb za zl zs wZ := rZ
  have rN : k_isQ cI mN nb na nl ns wN := rN
  have hll : ln.length ≤ 40 := rL.1.1
  have htl : tx.length ≤ 60 := rT.1.1
  obtain ⟨v, hxv⟩ : ∃ v, xs (i + 1) = v := ⟨_, rfl⟩
  obtain ⟨v2, hxv2⟩ : ∃ v2, xs (i + 2) = v2 := ⟨_, rfl⟩
  refine q_eqR (Rs' := [wX, wO, wA, wB, wL, wH, vO, vA, vB, vL, wT, wK, wP, wQ, wZ, wV, wN, wU, wD, [(o, .inl (cJ, 1, .inr (.inl g)))]]) rfl ?_
  by_cases hw : (k_rd tx).2 = true
  · refine q_aload_n C dL_law_582 583 3 rfl rfl ?_
    refine q_aload_n C dL_law_583 584 1 rfl rfl ?_
    refine q_reord [0, 1, 2, 3, 4, 10, 5, 19, 6, 7, 8, 9, 11, 12, 13, 14, 15, 16, 17, 18] (by decide : ([0, 1, 2, 3, 4, 10, 5, 19, 6, 7, 8, 9, 11, 12, 13, 14, 15, 16, 17, 18] : List Nat).Perm (List.range 20)) (Rs' := [wX, wO, wA, wB, wL, wT, wH, [(o, .inl (cJ, 1, .inr (.inl g)))], vO, vA, vB, vL, wK, wP, wQ, wZ, wV, wN, wU, wD]) rfl rfl ?_
    refine q_resp (Rs' := [[wX, wO, wA, wB, wL, wT, wH].flatten, [(o, .inl (cJ, 1, .inr (.inl g)))], vO, vA, vB, vL, wK, wP, wQ, wZ, wV, wN, wU, wD]) (by simp) ?_
    refine q_callSW (n := 2) (As := [.ref x, .ref o]) (rest := []) (Rr := [vO, vA, vB, vL, wK, wP, wQ, wZ, wV, wN, wU, wD]) C (c_L_work_ok l hZ hJ x o  (r := nI (k_dn tx (k_rp tx) (bx, at0, ln, sc))) (q_hd (k_isX_recv rX)) (q_Cflat (List.append_nil _).symm (c_X6_work_s l hZ hI hN hG hKs x aO aY aN hsn aT aK wX rX aB aL aS sc wO rO wA rA bx at0 wB rB ln wL rL tx wT rT sv wH rH hIv.1 hw)) (Nat.le_of_ble_eq_true rfl) (Nat.le_of_ble_eq_true rfl) rfl rfl (fun _ _ _ h => h.1) g) gL_law_L_work rfl rfl rfl (by decide +kernel) B.1 ⟨Nat.le_of_ble_eq_true rfl, Nat.le_of_ble_eq_true rfl⟩ rfl rfl (Nat.le_of_ble_eq_true rfl) dL_law_584 ⟨(by show (80 + i) + 0 ≤ 601024; omega), (by show (6951 + 2 * i) + 0 ≤ 7293034; omega)⟩ [0, 1] [2, 3, 4, 5, 6, 7, 8, 9, 10, 11, 12, 13] (by decide : ([0, 1] ++ ([2, 3, 4, 5, 6, 7, 8, 9, 10, 11, 12, 13] : List Nat)).Perm (List.range 14)) rfl rfl 587 rfl (fun v0 R0 t0 ht0 hp0 => ?_)
    obtain ⟨rfl, R1, t1, ⟨-, wO_584, hwO_584, wA_584, hwA_584, wB_584, hwB_584, wL_584, hwL_584, wT_584, hwT_584, wH_584, hwH_584, rfl⟩, rfl⟩ := hp0
    refine q_eqs (st' := [.int (nI 0)]) rfl ?_
    refine q_resp (Rs' := [wX, wO_584, wA_584, wB_584, wL_584, wT_584, wH_584, [(o, .inl (cJ, 1, .inr (.inl (va_up g 0 (nI (k_dn tx (k_rp tx) (bx, at0, ln, sc))).toInt64))))], vO, vA, vB, vL, wK, wP, wQ, wZ, wV, wN, wU, wD]) (by simp) ?_
    refine q_reord [0, 1, 2, 3, 4, 6, 8, 9, 10, 11, 5, 12, 13, 14, 15, 16, 17, 18, 19, 7] (by decide : ([0, 1, 2, 3, 4, 6, 8, 9, 10, 11, 5, 12, 13, 14, 15, 16, 17, 18, 19, 7] : List Nat).Perm (List.range 20)) (Rs' := [wX, wO_584, wA_584, wB_584, wL_584, wH_584, vO, vA, vB, vL, wT_584, wK, wP, wQ, wZ, wV, wN, wU, wD, [(o, .inl (cJ, 1, .inr (.inl (va_up g 0 (nI (k_dn tx (k_rp tx) (bx, at0, ln, sc))).toInt64))))]]) rfl rfl ?_
    refine q_istore C dL_law_587 589 rfl [(5, .int (nI 0)), (4, .int (nI i)), (3, .ref o), (2, .ref y), (1, .ref x), (0, .ref b)] (by decide) rfl ?_
    refine q_aload_n C dL_law_589 590 3 rfl rfl ?_
    refine q_callV (k := 12) (ci := 6) (n := 0) (rest := []) (Rr := [wX, wO_584, wA_584, wB_584, wL_584, wH_584, vO, vA, vB, vL, wT_584, wK, wZ, wN, [(o, .inl (cJ, 1, .inr (.inl (va_up g 0 (nI (k_dn tx (k_rp tx) (bx, at0, ln, sc))).toInt64))))]]) C rfl (k_isP_recv rP) rfl (c_X7_work_b l hZ hI y mS mZ mV mN mU mD fd hh wP rP bx at0 ln sc wQ rQ sv wV rV tx wU rU dx ps wD rD q8 q4 hw hIv.1) gL_law_X7_work rfl rfl rfl (by decide +kernel) B.1 ⟨Nat.le_of_ble_eq_true rfl, Nat.le_of_ble_eq_true rfl⟩ rfl rfl (Nat.le_of_ble_eq_true rfl) dL_law_590 ⟨(by show ((80 + i) + 0) + 0 ≤ 601024; omega), (by show ((6951 + 2 * i) + 0) + 0 ≤ 7293034; omega)⟩ [12, 13, 15, 17, 18] [0, 1, 2, 3, 4, 5, 6, 7, 8, 9, 10, 11, 14, 16, 19] (by decide : ([12, 13, 15, 17, 18] ++ ([0, 1, 2, 3, 4, 5, 6, 7, 8, 9, 10, 11, 14, 16, 19] : List Nat)).Perm (List.range 20)) rfl rfl 593 rfl (fun v0 R0 t0 ht0 hp0 => ?_)
    obtain ⟨rfl, wP_590, hwP_590, wQ_590, hwQ_590, wV_590, hwV_590, wU_590, hwU_590, wD_590, hwD_590, rfl⟩ := hp0
    refine q_eqs (st' := [.int (nI (k_dn tx (k_rp tx) (bx, at0, ln, sc)))]) rfl ?_
    refine q_reord [5, 6, 7, 8, 9, 10, 11, 12, 13, 14, 15, 16, 0, 1, 17, 2, 18, 3, 4, 19] (by decide : ([5, 6, 7, 8, 9, 10, 11, 12, 13, 14, 15, 16, 0, 1, 17, 2, 18, 3, 4, 19] : List Nat).Perm (List.range 20)) (Rs' := [wX, wO_584, wA_584, wB_584, wL_584, wH_584, vO, vA, vB, vL, wT_584, wK, wP_590, wQ_590, wZ, wV_590, wN, wU_590, wD_590, [(o, .inl (cJ, 1, .inr (.inl (va_up g 0 (nI (k_dn tx (k_rp tx) (bx, at0, ln, sc))).toInt64))))]]) rfl rfl ?_
    refine q_istore C dL_law_593 595 rfl [(6, .int (nI (k_dn tx (k_rp tx) (bx, at0, ln, sc)))), (5, .int (nI 0)), (4, .int (nI i)), (3, .ref o), (2, .ref y), (1, .ref x), (0, .ref b)] (by decide) rfl ?_
    refine q_aload_n C dL_law_595 596 4 rfl rfl ?_
    refine q_callV (k := 12) (ci := 6) (n := 0) (rest := []) (Rr := [wX, wO_584, wA_584, wB_584, wL_584, wH_584, vO, vA, vB, vL, wT_584, wK, wQ_590, wZ, wV_590, wN, wU_590, wD_590, [(o, .inl (cJ, 1, .inr (.inl (va_up g 0 (nI (k_dn tx (k_rp tx) (bx, at0, ln, sc))).toInt64))))]]) C rfl (k_isP_recv hwP_590) rfl (c_X7_thrown l hZ hI y mS mZ mV mN mU mD (upd (upd (upd (upd (upd (upd fd 0 (nI 0)) 10 (q_b (k_rd tx).2)) 9 (nI (k_rd tx).1)) 12 (nI (k_rp tx).length)) 4 (nI (k_sav sv (bx, at0, ln, sc)).length)) 8 (nI 0)) hh wP_590 hwP_590) gL_law_X7_thrown rfl rfl rfl (by decide +kernel) B.1 ⟨Nat.le_of_ble_eq_true rfl, Nat.le_of_ble_eq_true rfl⟩ rfl rfl (Nat.le_of_ble_eq_true rfl) dL_law_596 ⟨(by show ((80 + i) + 0) + 0 ≤ 601024; omega), (by show ((6951 + 2 * i) + 0) + 0 ≤ 7293034; omega)⟩ [12] [0, 1, 2, 3, 4, 5, 6, 7, 8, 9, 10, 11, 13, 14, 15, 16, 17, 18, 19] (by decide : ([12] ++ ([0, 1, 2, 3, 4, 5, 6, 7, 8, 9, 10, 11, 13, 14, 15, 16, 17, 18, 19] : List Nat)).Perm (List.range 20)) rfl rfl 599 rfl (fun v0 R0 t0 ht0 hp0 => ?_)
    obtain ⟨rfl, rfl⟩ := hp0
    refine q_eqs (st' := [.int ((upd (upd (upd (upd (upd (upd fd 0 (nI 0)) 10 (q_b (k_rd tx).2)) 9 (nI (k_rd tx).1)) 12 (nI (k_rp tx).length)) 4 (nI (k_sav sv (bx, at0, ln, sc)).length)) 8 (nI 0)) 0)]) rfl ?_
    refine q_reord [1, 2, 3, 4, 5, 6, 7, 8, 9, 10, 11, 12, 0, 13, 14, 15, 16, 17, 18, 19] (by decide : ([1, 2, 3, 4, 5, 6, 7, 8, 9, 10, 11, 12, 0, 13, 14, 15, 16, 17, 18, 19] : List Nat).Perm (List.range 20)) (Rs' := [wX, wO_584, wA_584, wB_584, wL_584, wH_584, vO, vA, vB, vL, wT_584, wK, wP_590, wQ_590, wZ, wV_590, wN, wU_590, wD_590, [(o, .inl (cJ, 1, .inr (.inl (va_up g 0 (nI (k_dn tx (k_rp tx) (bx, at0, ln, sc))).toInt64))))]]) rfl rfl ?_
    refine q_eqs (st' := [.int (nI 0)]) (by rw [pk_un (by decide), pk_un (by decide), pk_un (by decide), pk_un (by decide), pk_un (by decide), pk_us]) ?_
    refine q_iload C dL_law_599 601 1 rfl rfl ?_
    refine q_icmp_eq C dL_law_601 604 606 rfl (by decide) (nI_eq (by omega) (by omega)) (fun h601 => ?_) (fun h601 => False.elim (by first | omega | simp_all))
    refine q_iload C dL_law_606 608 1 rfl rfl ?_
    refine q_if_ne C dL_law_608 611 623 rfl (by decide) (q_eq0 (by omega)) (fun h608 => False.elim (by first | omega | simp_all)) (fun h608 => ?_)
    refine q_aload_n C dL_law_611 612 3 rfl rfl ?_
    refine q_iconst (v := nI 0) C dL_law_612 613 rfl (by decide) ?_
    refine q_lald (k := 19) (j := 0) (v := (nI (k_dn tx (k_rp tx) (bx, at0, ln, sc))).toInt64) C dL_law_613 614 rfl rfl rfl hJ 0 rfl (by decide) (by decide) k_up_s ?_
    refine q_iload C dL_law_614 616 0 rfl rfl ?_
    refine q_i2l (v := ((nI (k_dn tx (k_rp tx) (bx, at0, ln, sc))) : Int32).toInt64) C dL_law_616 617 rfl rfl ?_
    refine q_lcmp C dL_law_617 618 rfl ?_
    refine q_if_eq C dL_law_618 621 623 rfl (by decide) Iff.rfl (fun h618 => ?_) (fun h618 => False.elim (h618 (lg_self _)))
    refine q_goto C dL_law_623 1304 (by decide) ?_
    refine q_sub (L' := [(4, .int (nI i)), (3, .ref o), (2, .ref y), (1, .ref x), (0, .ref b)]) [2, 3, 4, 5, 6] rfl ?_
    refine q_widen (k := 80 + i + 1) (n := 6951 + 2 * i + 6) (by omega) (by omega) ?_
    exact kk _ ⟨k_wks tx (bx, at0, ln, sc), (k_sav sv (bx, at0, ln, sc)), hsn, (sb, sa, sl, ss), (nb, na, nl, ns), [], upd (upd (upd (upd (upd (upd fd 0 (nI 0)) 10 (q_b (k_rd tx).2)) 9 (nI (k_rd tx).1)) 12 (nI (k_rp tx).length)) 4 (nI (k_sav sv (bx, at0, ln, sc)).length)) 8 (nI 0), va_up g 0 (nI (k_dn tx (k_rp tx) (bx, at0, ln, sc))).toInt64, _, _, ⟨_, _, _, _, _, _, _, _, _, _, _, _, _, _, _, _, _, _, _, _, _, _, _, _, _, rX, ⟨hwO_584, hwA_584, hwB_584, hwL_584⟩, hwH_584, ⟨gO, gA, gB, gL⟩, hwT_584, rK, rfl⟩, ⟨_, _, _, _, _, _, _, (zb, za, zl, zs), _, _, _, _, _, _, _, _, _, hwP_590, hwQ_590, rZ, hwV_590, rN, hwU_590, hwD_590, rfl⟩, (k_Iv_wks hIv), (k_Iv_sav hIs hIv), (by rw [pk_un (by decide), pk_us]), (by rw [pk_us]; rfl), (k_Sn_eq hsn6 (by rw [pk_un (by decide), pk_un (by decide), pk_un (by decide), pk_un (by decide), pk_un (by decide), pk_un (by decide)])), (k_sav_6' hl6), rfl⟩
    
  · refine q_aload_n C dL_law_582 583 3 rfl rfl ?_
    refine q_aload_n C dL_law_583 584 1 rfl rfl ?_
    refine q_reord [0, 10, 19, 1, 2, 3, 4, 5, 6, 7, 8, 9, 11, 12, 13, 14, 15, 16, 17, 18] (by decide : ([0, 10, 19, 1, 2, 3, 4, 5, 6, 7, 8, 9, 11, 12, 13, 14, 15, 16, 17, 18] : List Nat).Perm (List.range 20)) (Rs' := [wX, wT, [(o, .inl (cJ, 1, .inr (.inl g)))], wO, wA, wB, wL, wH, vO, vA, vB, vL, wK, wP, wQ, wZ, wV, wN, wU, wD]) rfl rfl ?_
    refine q_resp (Rs' := [[wX, wT].flatten, [(o, .inl (cJ, 1, .inr (.inl g)))], wO, wA, wB, wL, wH, vO, vA, vB, vL, wK, wP, wQ, wZ, wV, wN, wU, wD]) (by simp) ?_
    refine q_callSW (n := 2) (As := [.ref x, .ref o]) (rest := []) (Rr := [wO, wA, wB, wL, wH, vO, vA, vB, vL, wK, wP, wQ, wZ, wV, wN, wU, wD]) C (c_L_work_x1 l hZ hJ hXs x o  (q_hd (k_isX_recv rX)) (q_Xflat (List.append_nil _).symm (c_X6_work_a l hZ hI hN hG hKs hXs hlT x aO aY aN hsn aT aK wX rX tx wT rT (Bool.eq_false_iff.mpr hw))) (Nat.le_of_ble_eq_true rfl) (Nat.le_of_ble_eq_true rfl) rfl rfl g) gL_law_L_work rfl rfl rfl (by decide +kernel) B.1 ⟨Nat.le_of_ble_eq_true rfl, Nat.le_of_ble_eq_true rfl⟩ rfl rfl (Nat.le_of_ble_eq_true rfl) dL_law_584 ⟨(by show (80 + i) + 1 ≤ 601024; omega), (by show (6951 + 2 * i) + 6 ≤ 7293034; omega)⟩ [0, 1] [2, 3, 4, 5, 6, 7, 8, 9, 10, 11, 12, 13, 14, 15, 16, 17, 18] (by decide : ([0, 1] ++ ([2, 3, 4, 5, 6, 7, 8, 9, 10, 11, 12, 13, 14, 15, 16, 17, 18] : List Nat)).Perm (List.range 19)) rfl rfl 587 rfl (fun v0 R0 t0 ht0 hp0 => ?_)
    obtain ⟨rfl, rfl⟩ := hp0
    refine q_eqs (st' := [.int (nI 1)]) rfl ?_
    refine q_resp (Rs' := [wX, wT, [(o, .inl (cJ, 1, .inr (.inl g)))], wO, wA, wB, wL, wH, vO, vA, vB, vL, wK, wP, wQ, wZ, wV, wN, wU, wD]) (by simp) ?_
    refine q_reord [0, 3, 4, 5, 6, 7, 8, 9, 10, 11, 1, 12, 13, 14, 15, 16, 17, 18, 19, 2] (by decide : ([0, 3, 4, 5, 6, 7, 8, 9, 10, 11, 1, 12, 13, 14, 15, 16, 17, 18, 19, 2] : List Nat).Perm (List.range 20)) (Rs' := [wX, wO, wA, wB, wL, wH, vO, vA, vB, vL, wT, wK, wP, wQ, wZ, wV, wN, wU, wD, [(o, .inl (cJ, 1, .inr (.inl g)))]]) rfl rfl ?_
    refine q_istore C dL_law_587 589 rfl [(5, .int (nI 1)), (4, .int (nI i)), (3, .ref o), (2, .ref y), (1, .ref x), (0, .ref b)] (by decide) rfl ?_
    refine q_aload_n C dL_law_589 590 3 rfl rfl ?_
    refine q_callV (k := 12) (ci := 6) (n := 0) (rest := []) (Rr := [wX, wO, wA, wB, wL, wH, vO, vA, vB, vL, wT, wK, wQ, wZ, wV, wN, [(o, .inl (cJ, 1, .inr (.inl g)))]]) C rfl (k_isP_recv rP) rfl (c_X7_work_a l hZ hI y mS mZ mV mN mU mD fd hh wP rP tx wU rU dx ps wD rD q8 (Bool.eq_false_iff.mpr hw)) gL_law_X7_work rfl rfl rfl (by decide +kernel) B.1 ⟨Nat.le_of_ble_eq_true rfl, Nat.le_of_ble_eq_true rfl⟩ rfl rfl (Nat.le_of_ble_eq_true rfl) dL_law_590 ⟨(by show ((80 + i) + 1) + 0 ≤ 601024; omega), (by show ((6951 + 2 * i) + 6) + 0 ≤ 7293034; omega)⟩ [12, 17, 18] [0, 1, 2, 3, 4, 5, 6, 7, 8, 9, 10, 11, 13, 14, 15, 16, 19] (by decide : ([12, 17, 18] ++ ([0, 1, 2, 3, 4, 5, 6, 7, 8, 9, 10, 11, 13, 14, 15, 16, 19] : List Nat)).Perm (List.range 20)) rfl rfl 593 rfl (fun v0 R0 t0 ht0 hp0 => ?_)
    obtain ⟨rfl, wP_590, hwP_590, wD_590, hwD_590, rfl⟩ := hp0
    refine q_eqs (st' := [.int (nI 0)]) rfl ?_
    refine q_reord [3, 4, 5, 6, 7, 8, 9, 10, 11, 12, 13, 14, 0, 15, 16, 17, 18, 1, 2, 19] (by decide : ([3, 4, 5, 6, 7, 8, 9, 10, 11, 12, 13, 14, 0, 15, 16, 17, 18, 1, 2, 19] : List Nat).Perm (List.range 20)) (Rs' := [wX, wO, wA, wB, wL, wH, vO, vA, vB, vL, wT, wK, wP_590, wQ, wZ, wV, wN, wU, wD_590, [(o, .inl (cJ, 1, .inr (.inl g)))]]) rfl rfl ?_
    refine q_istore C dL_law_593 595 rfl [(6, .int (nI 0)), (5, .int (nI 1)), (4, .int (nI i)), (3, .ref o), (2, .ref y), (1, .ref x), (0, .ref b)] (by decide) rfl ?_
    refine q_aload_n C dL_law_595 596 4 rfl rfl ?_
    refine q_callV (k := 12) (ci := 6) (n := 0) (rest := []) (Rr := [wX, wO, wA, wB, wL, wH, vO, vA, vB, vL, wT, wK, wQ, wZ, wV, wN, wU, wD_590, [(o, .inl (cJ, 1, .inr (.inl g)))]]) C rfl (k_isP_recv hwP_590) rfl (c_X7_thrown l hZ hI y mS mZ mV mN mU mD (upd (upd (upd (upd (upd fd 0 (nI 0)) 10 (q_b (k_rd tx).2)) 9 (nI (k_rd tx).1)) 12 (nI (k_rp tx).length)) 0 (nI 1)) hh wP_590 hwP_590) gL_law_X7_thrown rfl rfl rfl (by decide +kernel) B.1 ⟨Nat.le_of_ble_eq_true rfl, Nat.le_of_ble_eq_true rfl⟩ rfl rfl (Nat.le_of_ble_eq_true rfl) dL_law_596 ⟨(by show ((80 + i) + 1) + 0 ≤ 601024; omega), (by show ((6951 + 2 * i) + 6) + 0 ≤ 7293034; omega)⟩ [12] [0, 1, 2, 3, 4, 5, 6, 7, 8, 9, 10, 11, 13, 14, 15, 16, 17, 18, 19] (by decide : ([12] ++ ([0, 1, 2, 3, 4, 5, 6, 7, 8, 9, 10, 11, 13, 14, 15, 16, 17, 18, 19] : List Nat)).Perm (List.range 20)) rfl rfl 599 rfl (fun v0 R0 t0 ht0 hp0 => ?_)
    obtain ⟨rfl, rfl⟩ := hp0
    refine q_eqs (st' := [.int ((upd (upd (upd (upd (upd fd 0 (nI 0)) 10 (q_b (k_rd tx).2)) 9 (nI (k_rd tx).1)) 12 (nI (k_rp tx).length)) 0 (nI 1)) 0)]) rfl ?_
    refine q_reord [1, 2, 3, 4, 5, 6, 7, 8, 9, 10, 11, 12, 0, 13, 14, 15, 16, 17, 18, 19] (by decide : ([1, 2, 3, 4, 5, 6, 7, 8, 9, 10, 11, 12, 0, 13, 14, 15, 16, 17, 18, 19] : List Nat).Perm (List.range 20)) (Rs' := [wX, wO, wA, wB, wL, wH, vO, vA, vB, vL, wT, wK, wP_590, wQ, wZ, wV, wN, wU, wD_590, [(o, .inl (cJ, 1, .inr (.inl g)))]]) rfl rfl ?_
    refine q_eqs (st' := [.int (nI 1)]) (by rw [pk_us]) ?_
    refine q_iload C dL_law_599 601 1 rfl rfl ?_
    refine q_icmp_eq C dL_law_601 604 606 rfl (by decide) (nI_eq (by omega) (by omega)) (fun h601 => ?_) (fun h601 => False.elim (by first | omega | simp_all))
    refine q_iload C dL_law_606 608 1 rfl rfl ?_
    refine q_if_ne C dL_law_608 611 623 rfl (by decide) (q_eq0 (by omega)) (fun h608 => ?_) (fun h608 => False.elim (by first | omega | simp_all))
    refine q_goto C dL_law_623 1304 (by decide) ?_
    refine q_sub (L' := [(4, .int (nI i)), (3, .ref o), (2, .ref y), (1, .ref x), (0, .ref b)]) [2, 3, 4, 5, 6] rfl ?_
    refine q_widen (k := 80 + i + 1) (n := 6951 + 2 * i + 6) (by omega) (by omega) ?_
    exact kk _ ⟨(bx, at0, ln, sc), sv, hsn, (sb, sa, sl, ss), (nb, na, nl, ns), tx, upd (upd (upd (upd (upd fd 0 (nI 0)) 10 (q_b (k_rd tx).2)) 9 (nI (k_rd tx).1)) 12 (nI (k_rp tx).length)) 0 (nI 1), g, _, _, ⟨_, _, _, _, _, _, _, _, _, _, _, _, _, _, _, _, _, _, _, _, _, _, _, _, _, rX, ⟨rO, rA, rB, rL⟩, rH, ⟨gO, gA, gB, gL⟩, rT, rK, rfl⟩, ⟨_, _, _, _, _, _, _, (zb, za, zl, zs), _, _, _, _, _, _, _, _, _, hwP_590, rQ, rZ, rV, rN, rU, hwD_590, rfl⟩, hIv, hIs, (by rw [pk_un (by decide), pk_un (by decide), pk_un (by decide), pk_un (by decide), pk_un (by decide)]; exact q4), (by rw [pk_un (by decide), pk_un (by decide), pk_un (by decide), pk_un (by decide), pk_un (by decide)]; exact q8), (k_Sn_eq hsn6 (by rw [pk_un (by decide), pk_un (by decide), pk_un (by decide), pk_un (by decide), pk_un (by decide)])), hl6, rfl⟩
    

set_option maxHeartbeats 1000000 in
set_option maxRecDepth 100000 in
theorem law_c10 {p9 : Program} {l : Launch} {e9 : Env} {R : Room} {s9 : State} {m9 : MethodId} {args : Array Value} {below : List Frame} {meth : Method} {c9 : Code} {Q : State → Prop} {D : va_G} {tys : List (ClassId × FieldType)} {A : Nat → Prop} {Z : (Nat → Prop) → State → Heap → Prop} {b LL : Nat} {xs : Nat → Int32} {x y o i : Nat} {Rs : List va_W} (C : q_C p9 s9 m9 args c9 cL_law 9 wsL_law RL D tys Z A) (hZ : q_St Z) {cI cG cJ : ClassId} (hI : tys[0]? = some (cI, .int)) (hG : tys[1]? = some (cG, .object "SortCases$State")) (hJ : tys[2]? = some (cJ, .long)) (hN : q_Ns Z) {ad aw av : Nat → Nat} {tK : Nat} (hKs : q_Ks Z ad aw av tK) {tL tH : Nat} (hVs : q_Vs Z tL tH) (hXs : q_Xs Z) (hlT : l.stackTraces = false) (hXb : va_X b LL xs s9 s9.heap) (hbl : b < s9.heap.size) (hbA : ¬ A b) (hR : R = ({ frames := 12, cells := 601024, slots := 7293034, locals := 454 } : Room)) (hi : i + 3 ≤ LL) (hL : LL ≤ 1536) (hRs : law_I cG cI cJ x y o Rs) (kk : ∀ Rs', law_I cG cI cJ x y o Rs' → q_V p9 l e9 R s9 m9 args below meth c9 D A 9 Q (80 + i + 1) (6951 + 2 * i + 6) 1304 [(4, .int (nI i)), (3, .ref o), (2, .ref y), (1, .ref x), (0, .ref b)] [] Rs') : q_V p9 l e9 R s9 m9 args below meth c9 D A 9 Q (80 + i) (6951 + 2 * i) 626 [(4, .int (nI i)), (3, .ref o), (2, .ref y), (1, .ref x), (0, .ref b)] [] Rs := by
  have hcI := hI
  have hcG := hG
  have B : R = ({ frames := 12, cells := 601024, slots := 7293034, locals := 454 } : Room) ∧ True := ⟨hR, trivial⟩
  have hts := C.2.2.2.2.1
  obtain ⟨⟨bx, at0, ln, sc⟩, sv, hsn, ⟨sb, sa, sl, ss⟩, ⟨nb, na, nl, ns⟩, tx, fd, g, R1, R2, ⟨aO, aY, aN, aT, aK, aB, aL, aS, naB, naL, naS, kb, ka, wX, wO, wA, wB, wL, wH, vO, vA, vB, vL, wT, wK, rX, ⟨rO, rA, rB, rL⟩, rH, ⟨gO, gA, gB, gL⟩, rT, rK, rfl⟩, ⟨mS, mZ, mV, mN, mU, mD, hh, ⟨zb, za, zl, zs⟩, dx, ps, wP, wQ, wZ, wV, wN, wU, wD, rP, rQ, rZ, rV, rN, rU, rD, rfl⟩, hIv, hIs, q4, q8, hsn6, hl6, rfl⟩ := hRs
  have rO : k_isO cI aO aB aL aS sc wO := rO
  have rA : k_isA cI aS sc wA := rA
  have rB : k_isB cI aB bx at0 wB := rB
  have rL : k_isL cI aL ln wL := rL
  have gO : k_isO cI aN naB naL naS ss vO := gO
  have gA : k_isA cI naS ss vA := gA
  have gB : k_isB cI naB sb sa vB := gB
  have gL : k_isL cI naL sl vL := gL
  have rQ : k_isQ cI mS bx at0 ln sc wQ := rQ
  have rZ : k_isQ cI mZ zb za zl zs wZ := rZ
  have rN : k_isQ cI mN nb na nl ns wN := rN
  have hll : ln.length ≤ 40 := rL.1.1
  have htl : tx.length ≤ 60 := rT.1.1
  obtain ⟨v, hxv⟩ : ∃ v, xs (i + 1) = v := ⟨_, rfl⟩
  obtain ⟨v2, hxv2⟩ : ∃ v2, xs (i + 2) = v2 := ⟨_, rfl⟩
  refine q_eqR (Rs' := [wX, wO, wA, wB, wL, wH, vO, vA, vB, vL, wT, wK, wP, wQ, wZ, wV, wN, wU, wD, [(o, .inl (cJ, 1, .inr (.inl g)))]]) rfl ?_
  by_cases hv : nI 0 ≤ v ∧ v ≤ nI 1
  · obtain ⟨c, hc, rfl⟩ := k_exr hv (by decide) (by decide)
    refine q_aload_n C dL_law_626 627 3 rfl rfl ?_
    refine q_aload_n C dL_law_627 628 4 rfl rfl ?_
    refine q_iload C dL_law_628 630 0 rfl rfl ?_
    refine q_iconst (v := nI 1) C dL_law_630 631 rfl (by decide) ?_
    refine q_iadd (v := nI (i + 1)) C dL_law_631 632 rfl (q_nadd (by omega)) ?_
    refine q_sld (v := nI c) C hXb hbl hbA (i + 1) rfl (by omega) (by omega) hxv dL_law_632 633 rfl ?_
    refine q_aload_n C dL_law_633 634 1 rfl rfl ?_
    refine q_reord [0, 1, 2, 19, 3, 4, 5, 6, 7, 8, 9, 10, 11, 12, 13, 14, 15, 16, 17, 18] (by decide : ([0, 1, 2, 19, 3, 4, 5, 6, 7, 8, 9, 10, 11, 12, 13, 14, 15, 16, 17, 18] : List Nat).Perm (List.range 20)) (Rs' := [wX, wO, wA, [(o, .inl (cJ, 1, .inr (.inl g)))], wB, wL, wH, vO, vA, vB, vL, wT, wK, wP, wQ, wZ, wV, wN, wU, wD]) rfl rfl ?_
    refine q_resp (Rs' := [[wX, wO, wA].flatten, [(o, .inl (cJ, 1, .inr (.inl g)))], wB, wL, wH, vO, vA, vB, vL, wT, wK, wP, wQ, wZ, wV, wN, wU, wD]) (by simp) ?_
    refine q_callSW (n := 3) (As := [.ref x, .int (nI c), .ref o]) (rest := []) (Rr := [wB, wL, wH, vO, vA, vB, vL, wT, wK, wP, wQ, wZ, wV, wN, wU, wD]) C (c_L_stopped_ok l hZ hJ x o (nI c) (r := sc (10 + c)) (q_hd (k_isX_recv rX)) (q_Cflat (List.append_nil _).symm (c_X6_stopped_b l hZ hI hN x aO aY aN hsn aT aK wX rX aB aL aS sc wO rO wA rA c (by omega))) (Nat.le_of_ble_eq_true rfl) (Nat.le_of_ble_eq_true rfl) rfl rfl (fun _ _ _ h => h.1) g) gL_law_L_stopped rfl rfl rfl (by decide +kernel) B.1 ⟨Nat.le_of_ble_eq_true rfl, Nat.le_of_ble_eq_true rfl⟩ rfl rfl (Nat.le_of_ble_eq_true rfl) dL_law_634 ⟨(by show (80 + i) + 0 ≤ 601024; omega), (by show (6951 + 2 * i) + 0 ≤ 7293034; omega)⟩ [0, 1] [2, 3, 4, 5, 6, 7, 8, 9, 10, 11, 12, 13, 14, 15, 16, 17] (by decide : ([0, 1] ++ ([2, 3, 4, 5, 6, 7, 8, 9, 10, 11, 12, 13, 14, 15, 16, 17] : List Nat)).Perm (List.range 18)) rfl rfl 637 rfl (fun v0 R0 t0 ht0 hp0 => ?_)
    obtain ⟨rfl, R1, t1, ⟨-, rfl⟩, rfl⟩ := hp0
    refine q_eqs (st' := [.int (nI 0)]) rfl ?_
    refine q_resp (Rs' := [wX, wO, wA, [(o, .inl (cJ, 1, .inr (.inl (va_up g 0 (sc (10 + c)).toInt64))))], wB, wL, wH, vO, vA, vB, vL, wT, wK, wP, wQ, wZ, wV, wN, wU, wD]) (by simp) ?_
    refine q_reord [0, 1, 2, 4, 5, 6, 7, 8, 9, 10, 11, 12, 13, 14, 15, 16, 17, 18, 19, 3] (by decide : ([0, 1, 2, 4, 5, 6, 7, 8, 9, 10, 11, 12, 13, 14, 15, 16, 17, 18, 19, 3] : List Nat).Perm (List.range 20)) (Rs' := [wX, wO, wA, wB, wL, wH, vO, vA, vB, vL, wT, wK, wP, wQ, wZ, wV, wN, wU, wD, [(o, .inl (cJ, 1, .inr (.inl (va_up g 0 (sc (10 + c)).toInt64))))]]) rfl rfl ?_
    refine q_istore C dL_law_637 639 rfl [(5, .int (nI 0)), (4, .int (nI i)), (3, .ref o), (2, .ref y), (1, .ref x), (0, .ref b)] (by decide) rfl ?_
    refine q_aload_n C dL_law_639 640 3 rfl rfl ?_
    refine q_aload_n C dL_law_640 641 5 rfl rfl ?_
    refine q_iload C dL_law_641 643 1 rfl rfl ?_
    refine q_iconst (v := nI 1) C dL_law_643 644 rfl (by decide) ?_
    refine q_iadd (v := nI (i + 1)) C dL_law_644 645 rfl (q_nadd (by omega)) ?_
    refine q_sld (v := nI c) C hXb hbl hbA (i + 1) rfl (by omega) (by omega) hxv dL_law_645 646 rfl ?_
    refine q_callV (k := 12) (ci := 6) (n := 1) (rest := []) (Rr := [wX, wO, wA, wB, wL, wH, vO, vA, vB, vL, wT, wK, wZ, wV, wN, wU, wD, [(o, .inl (cJ, 1, .inr (.inl (va_up g 0 (sc (10 + c)).toInt64))))]]) C rfl (k_isP_recv rP) rfl (c_X7_stopped_b l hZ hI y mS mZ mV mN mU mD fd hh wP rP bx at0 ln sc wQ rQ c (by omega)) gL_law_X7_stopped rfl rfl rfl (by decide +kernel) B.1 ⟨Nat.le_of_ble_eq_true rfl, Nat.le_of_ble_eq_true rfl⟩ rfl rfl (Nat.le_of_ble_eq_true rfl) dL_law_646 ⟨(by show ((80 + i) + 0) + 0 ≤ 601024; omega), (by show ((6951 + 2 * i) + 0) + 0 ≤ 7293034; omega)⟩ [12, 13] [0, 1, 2, 3, 4, 5, 6, 7, 8, 9, 10, 11, 14, 15, 16, 17, 18, 19] (by decide : ([12, 13] ++ ([0, 1, 2, 3, 4, 5, 6, 7, 8, 9, 10, 11, 14, 15, 16, 17, 18, 19] : List Nat)).Perm (List.range 20)) rfl rfl 649 rfl (fun v0 R0 t0 ht0 hp0 => ?_)
    obtain ⟨rfl, wP_646, hwP_646, rfl⟩ := hp0
    refine q_eqs (st' := [.int (sc (10 + c))]) rfl ?_
    refine q_reord [2, 3, 4, 5, 6, 7, 8, 9, 10, 11, 12, 13, 0, 1, 14, 15, 16, 17, 18, 19] (by decide : ([2, 3, 4, 5, 6, 7, 8, 9, 10, 11, 12, 13, 0, 1, 14, 15, 16, 17, 18, 19] : List Nat).Perm (List.range 20)) (Rs' := [wX, wO, wA, wB, wL, wH, vO, vA, vB, vL, wT, wK, wP_646, wQ, wZ, wV, wN, wU, wD, [(o, .inl (cJ, 1, .inr (.inl (va_up g 0 (sc (10 + c)).toInt64))))]]) rfl rfl ?_
    refine q_istore C dL_law_649 651 rfl [(6, .int (sc (10 + c))), (5, .int (nI 0)), (4, .int (nI i)), (3, .ref o), (2, .ref y), (1, .ref x), (0, .ref b)] (by decide) rfl ?_
    refine q_aload_n C dL_law_651 652 4 rfl rfl ?_
    refine q_callV (k := 12) (ci := 6) (n := 0) (rest := []) (Rr := [wX, wO, wA, wB, wL, wH, vO, vA, vB, vL, wT, wK, wQ, wZ, wV, wN, wU, wD, [(o, .inl (cJ, 1, .inr (.inl (va_up g 0 (sc (10 + c)).toInt64))))]]) C rfl (k_isP_recv hwP_646) rfl (c_X7_thrown l hZ hI y mS mZ mV mN mU mD (upd fd 0 (nI 0)) hh wP_646 hwP_646) gL_law_X7_thrown rfl rfl rfl (by decide +kernel) B.1 ⟨Nat.le_of_ble_eq_true rfl, Nat.le_of_ble_eq_true rfl⟩ rfl rfl (Nat.le_of_ble_eq_true rfl) dL_law_652 ⟨(by show ((80 + i) + 0) + 0 ≤ 601024; omega), (by show ((6951 + 2 * i) + 0) + 0 ≤ 7293034; omega)⟩ [12] [0, 1, 2, 3, 4, 5, 6, 7, 8, 9, 10, 11, 13, 14, 15, 16, 17, 18, 19] (by decide : ([12] ++ ([0, 1, 2, 3, 4, 5, 6, 7, 8, 9, 10, 11, 13, 14, 15, 16, 17, 18, 19] : List Nat)).Perm (List.range 20)) rfl rfl 655 rfl (fun v0 R0 t0 ht0 hp0 => ?_)
    obtain ⟨rfl, rfl⟩ := hp0
    refine q_eqs (st' := [.int ((upd fd 0 (nI 0)) 0)]) rfl ?_
    refine q_reord [1, 2, 3, 4, 5, 6, 7, 8, 9, 10, 11, 12, 0, 13, 14, 15, 16, 17, 18, 19] (by decide : ([1, 2, 3, 4, 5, 6, 7, 8, 9, 10, 11, 12, 0, 13, 14, 15, 16, 17, 18, 19] : List Nat).Perm (List.range 20)) (Rs' := [wX, wO, wA, wB, wL, wH, vO, vA, vB, vL, wT, wK, wP_646, wQ, wZ, wV, wN, wU, wD, [(o, .inl (cJ, 1, .inr (.inl (va_up g 0 (sc (10 + c)).toInt64))))]]) rfl rfl ?_
    refine q_eqs (st' := [.int (nI 0)]) (by rw [pk_us]) ?_
    refine q_iload C dL_law_655 657 1 rfl rfl ?_
    refine q_icmp_eq C dL_law_657 660 662 rfl (by decide) (nI_eq (by omega) (by omega)) (fun h657 => ?_) (fun h657 => False.elim (by first | omega | simp_all))
    refine q_iload C dL_law_662 664 1 rfl rfl ?_
    refine q_if_ne C dL_law_664 667 679 rfl (by decide) (q_eq0 (by omega)) (fun h664 => False.elim (by first | omega | simp_all)) (fun h664 => ?_)
    refine q_aload_n C dL_law_667 668 3 rfl rfl ?_
    refine q_iconst (v := nI 0) C dL_law_668 669 rfl (by decide) ?_
    refine q_lald (k := 19) (j := 0) (v := (sc (10 + c)).toInt64) C dL_law_669 670 rfl rfl rfl hJ 0 rfl (by decide) (by decide) k_up_s ?_
    refine q_iload C dL_law_670 672 0 rfl rfl ?_
    refine q_i2l (v := ((sc (10 + c)) : Int32).toInt64) C dL_law_672 673 rfl rfl ?_
    refine q_lcmp C dL_law_673 674 rfl ?_
    refine q_if_eq C dL_law_674 677 679 rfl (by decide) Iff.rfl (fun h674 => ?_) (fun h674 => False.elim (h674 (lg_self _)))
    refine q_goto C dL_law_679 1304 (by decide) ?_
    refine q_sub (L' := [(4, .int (nI i)), (3, .ref o), (2, .ref y), (1, .ref x), (0, .ref b)]) [2, 3, 4, 5, 6] rfl ?_
    refine q_widen (k := 80 + i + 1) (n := 6951 + 2 * i + 6) (by omega) (by omega) ?_
    exact kk _ ⟨(bx, at0, ln, sc), sv, hsn, (sb, sa, sl, ss), (nb, na, nl, ns), tx, upd fd 0 (nI 0), va_up g 0 (sc (10 + c)).toInt64, _, _, ⟨_, _, _, _, _, _, _, _, _, _, _, _, _, _, _, _, _, _, _, _, _, _, _, _, _, rX, ⟨rO, rA, rB, rL⟩, rH, ⟨gO, gA, gB, gL⟩, rT, rK, rfl⟩, ⟨_, _, _, _, _, _, _, (zb, za, zl, zs), _, _, _, _, _, _, _, _, _, hwP_646, rQ, rZ, rV, rN, rU, rD, rfl⟩, hIv, hIs, (by rw [pk_un (by decide)]; exact q4), (by rw [pk_un (by decide)]; exact q8), (k_Sn_eq hsn6 (by rw [pk_un (by decide)])), hl6, rfl⟩
    
  · refine q_aload_n C dL_law_626 627 3 rfl rfl ?_
    refine q_aload_n C dL_law_627 628 4 rfl rfl ?_
    refine q_iload C dL_law_628 630 0 rfl rfl ?_
    refine q_iconst (v := nI 1) C dL_law_630 631 rfl (by decide) ?_
    refine q_iadd (v := nI (i + 1)) C dL_law_631 632 rfl (q_nadd (by omega)) ?_
    refine q_sld (v := v) C hXb hbl hbA (i + 1) rfl (by omega) (by omega) hxv dL_law_632 633 rfl ?_
    refine q_aload_n C dL_law_633 634 1 rfl rfl ?_
    refine q_reord [0, 19, 1, 2, 3, 4, 5, 6, 7, 8, 9, 10, 11, 12, 13, 14, 15, 16, 17, 18] (by decide : ([0, 19, 1, 2, 3, 4, 5, 6, 7, 8, 9, 10, 11, 12, 13, 14, 15, 16, 17, 18] : List Nat).Perm (List.range 20)) (Rs' := [wX, [(o, .inl (cJ, 1, .inr (.inl g)))], wO, wA, wB, wL, wH, vO, vA, vB, vL, wT, wK, wP, wQ, wZ, wV, wN, wU, wD]) rfl rfl ?_
    refine q_resp (Rs' := [[wX].flatten, [(o, .inl (cJ, 1, .inr (.inl g)))], wO, wA, wB, wL, wH, vO, vA, vB, vL, wT, wK, wP, wQ, wZ, wV, wN, wU, wD]) (by simp) ?_
    refine q_callSW (n := 3) (As := [.ref x, .int v, .ref o]) (rest := []) (Rr := [wO, wA, wB, wL, wH, vO, vA, vB, vL, wT, wK, wP, wQ, wZ, wV, wN, wU, wD]) C (c_L_stopped_x1 l hZ hJ hXs x o v (q_hd (k_isX_recv rX)) (q_Xflat (List.append_nil _).symm (c_X6_stopped_a l hZ hI hN hXs hlT x aO aY aN hsn aT aK wX rX v hv)) (Nat.le_of_ble_eq_true rfl) (Nat.le_of_ble_eq_true rfl) rfl rfl g) gL_law_L_stopped rfl rfl rfl (by decide +kernel) B.1 ⟨Nat.le_of_ble_eq_true rfl, Nat.le_of_ble_eq_true rfl⟩ rfl rfl (Nat.le_of_ble_eq_true rfl) dL_law_634 ⟨(by show (80 + i) + 1 ≤ 601024; omega), (by show (6951 + 2 * i) + 6 ≤ 7293034; omega)⟩ [0, 1] [2, 3, 4, 5, 6, 7, 8, 9, 10, 11, 12, 13, 14, 15, 16, 17, 18, 19] (by decide : ([0, 1] ++ ([2, 3, 4, 5, 6, 7, 8, 9, 10, 11, 12, 13, 14, 15, 16, 17, 18, 19] : List Nat)).Perm (List.range 20)) rfl rfl 637 rfl (fun v0 R0 t0 ht0 hp0 => ?_)
    obtain ⟨rfl, rfl⟩ := hp0
    refine q_eqs (st' := [.int (nI 1)]) rfl ?_
    refine q_resp (Rs' := [wX, [(o, .inl (cJ, 1, .inr (.inl g)))], wO, wA, wB, wL, wH, vO, vA, vB, vL, wT, wK, wP, wQ, wZ, wV, wN, wU, wD]) (by simp) ?_
    refine q_reord [0, 2, 3, 4, 5, 6, 7, 8, 9, 10, 11, 12, 13, 14, 15, 16, 17, 18, 19, 1] (by decide : ([0, 2, 3, 4, 5, 6, 7, 8, 9, 10, 11, 12, 13, 14, 15, 16, 17, 18, 19, 1] : List Nat).Perm (List.range 20)) (Rs' := [wX, wO, wA, wB, wL, wH, vO, vA, vB, vL, wT, wK, wP, wQ, wZ, wV, wN, wU, wD, [(o, .inl (cJ, 1, .inr (.inl g)))]]) rfl rfl ?_
    refine q_istore C dL_law_637 639 rfl [(5, .int (nI 1)), (4, .int (nI i)), (3, .ref o), (2, .ref y), (1, .ref x), (0, .ref b)] (by decide) rfl ?_
    refine q_aload_n C dL_law_639 640 3 rfl rfl ?_
    refine q_aload_n C dL_law_640 641 5 rfl rfl ?_
    refine q_iload C dL_law_641 643 1 rfl rfl ?_
    refine q_iconst (v := nI 1) C dL_law_643 644 rfl (by decide) ?_
    refine q_iadd (v := nI (i + 1)) C dL_law_644 645 rfl (q_nadd (by omega)) ?_
    refine q_sld (v := v) C hXb hbl hbA (i + 1) rfl (by omega) (by omega) hxv dL_law_645 646 rfl ?_
    refine q_callV (k := 12) (ci := 6) (n := 1) (rest := []) (Rr := [wX, wO, wA, wB, wL, wH, vO, vA, vB, vL, wT, wK, wQ, wZ, wV, wN, wU, wD, [(o, .inl (cJ, 1, .inr (.inl g)))]]) C rfl (k_isP_recv rP) rfl (c_X7_stopped_a l hZ hI y mS mZ mV mN mU mD fd hh wP rP v hv) gL_law_X7_stopped rfl rfl rfl (by decide +kernel) B.1 ⟨Nat.le_of_ble_eq_true rfl, Nat.le_of_ble_eq_true rfl⟩ rfl rfl (Nat.le_of_ble_eq_true rfl) dL_law_646 ⟨(by show ((80 + i) + 1) + 0 ≤ 601024; omega), (by show ((6951 + 2 * i) + 6) + 0 ≤ 7293034; omega)⟩ [12] [0, 1, 2, 3, 4, 5, 6, 7, 8, 9, 10, 11, 13, 14, 15, 16, 17, 18, 19] (by decide : ([12] ++ ([0, 1, 2, 3, 4, 5, 6, 7, 8, 9, 10, 11, 13, 14, 15, 16, 17, 18, 19] : List Nat)).Perm (List.range 20)) rfl rfl 649 rfl (fun v0 R0 t0 ht0 hp0 => ?_)
    obtain ⟨rfl, w_646, hw_646, rfl⟩ := hp0
    refine q_eqs (st' := [.int (nI 0)]) rfl ?_
    refine q_reord [1, 2, 3, 4, 5, 6, 7, 8, 9, 10, 11, 12, 0, 13, 14, 15, 16, 17, 18, 19] (by decide : ([1, 2, 3, 4, 5, 6, 7, 8, 9, 10, 11, 12, 0, 13, 14, 15, 16, 17, 18, 19] : List Nat).Perm (List.range 20)) (Rs' := [wX, wO, wA, wB, wL, wH, vO, vA, vB, vL, wT, wK, w_646, wQ, wZ, wV, wN, wU, wD, [(o, .inl (cJ, 1, .inr (.inl g)))]]) rfl rfl ?_
    refine q_istore C dL_law_649 651 rfl [(6, .int (nI 0)), (5, .int (nI 1)), (4, .int (nI i)), (3, .ref o), (2, .ref y), (1, .ref x), (0, .ref b)] (by decide) rfl ?_
    refine q_aload_n C dL_law_651 652 4 rfl rfl ?_
    refine q_callV (k := 12) (ci := 6) (n := 0) (rest := []) (Rr := [wX, wO, wA, wB, wL, wH, vO, vA, vB, vL, wT, wK, wQ, wZ, wV, wN, wU, wD, [(o, .inl (cJ, 1, .inr (.inl g)))]]) C rfl (k_isP_recv hw_646) rfl (c_X7_thrown l hZ hI y mS mZ mV mN mU mD (upd (upd fd 0 (nI 0)) 0 (nI 1)) hh w_646 hw_646) gL_law_X7_thrown rfl rfl rfl (by decide +kernel) B.1 ⟨Nat.le_of_ble_eq_true rfl, Nat.le_of_ble_eq_true rfl⟩ rfl rfl (Nat.le_of_ble_eq_true rfl) dL_law_652 ⟨(by show ((80 + i) + 1) + 0 ≤ 601024; omega), (by show ((6951 + 2 * i) + 6) + 0 ≤ 7293034; omega)⟩ [12] [0, 1, 2, 3, 4, 5, 6, 7, 8, 9, 10, 11, 13, 14, 15, 16, 17, 18, 19] (by decide : ([12] ++ ([0, 1, 2, 3, 4, 5, 6, 7, 8, 9, 10, 11, 13, 14, 15, 16, 17, 18, 19] : List Nat)).Perm (List.range 20)) rfl rfl 655 rfl (fun v0 R0 t0 ht0 hp0 => ?_)
    obtain ⟨rfl, rfl⟩ := hp0
    refine q_eqs (st' := [.int ((upd (upd fd 0 (nI 0)) 0 (nI 1)) 0)]) rfl ?_
    refine q_reord [1, 2, 3, 4, 5, 6, 7, 8, 9, 10, 11, 12, 0, 13, 14, 15, 16, 17, 18, 19] (by decide : ([1, 2, 3, 4, 5, 6, 7, 8, 9, 10, 11, 12, 0, 13, 14, 15, 16, 17, 18, 19] : List Nat).Perm (List.range 20)) (Rs' := [wX, wO, wA, wB, wL, wH, vO, vA, vB, vL, wT, wK, w_646, wQ, wZ, wV, wN, wU, wD, [(o, .inl (cJ, 1, .inr (.inl g)))]]) rfl rfl ?_
    refine q_eqs (st' := [.int (nI 1)]) (by rw [pk_us]) ?_
    refine q_iload C dL_law_655 657 1 rfl rfl ?_
    refine q_icmp_eq C dL_law_657 660 662 rfl (by decide) (nI_eq (by omega) (by omega)) (fun h657 => ?_) (fun h657 => False.elim (by first | omega | simp_all))
    refine q_iload C dL_law_662 664 1 rfl rfl ?_
    refine q_if_ne C dL_law_664 667 679 rfl (by decide) (q_eq0 (by omega)) (fun h664 => ?_) (fun h664 => False.elim (by first | omega | simp_all))
    refine q_goto C dL_law_679 1304 (by decide) ?_
    refine q_sub (L' := [(4, .int (nI i)), (3, .ref o), (2, .ref y), (1, .ref x), (0, .ref b)]) [2, 3, 4, 5, 6] rfl ?_
    refine q_widen (k := 80 + i + 1) (n := 6951 + 2 * i + 6) (by omega) (by omega) ?_
    exact kk _ ⟨(bx, at0, ln, sc), sv, hsn, (sb, sa, sl, ss), (nb, na, nl, ns), tx, upd (upd fd 0 (nI 0)) 0 (nI 1), g, _, _, ⟨_, _, _, _, _, _, _, _, _, _, _, _, _, _, _, _, _, _, _, _, _, _, _, _, _, rX, ⟨rO, rA, rB, rL⟩, rH, ⟨gO, gA, gB, gL⟩, rT, rK, rfl⟩, ⟨_, _, _, _, _, _, _, (zb, za, zl, zs), _, _, _, _, _, _, _, _, _, hw_646, rQ, rZ, rV, rN, rU, rD, rfl⟩, hIv, hIs, (by rw [pk_un (by decide), pk_un (by decide)]; exact q4), (by rw [pk_un (by decide), pk_un (by decide)]; exact q8), (k_Sn_eq hsn6 (by rw [pk_un (by decide), pk_un (by decide)])), hl6, rfl⟩
    

set_option maxHeartbeats 1000000 in
set_option maxRecDepth 100000 in
theorem law_c11 {p9 : Program} {l : Launch} {e9 : Env} {R : Room} {s9 : State} {m9 : MethodId} {args : Array Value} {below : List Frame} {meth : Method} {c9 : Code} {Q : State → Prop} {D : va_G} {tys : List (ClassId × FieldType)} {A : Nat → Prop} {Z : (Nat → Prop) → State → Heap → Prop} {b LL : Nat} {xs : Nat → Int32} {x y o i : Nat} {Rs : List va_W} (C : q_C p9 s9 m9 args c9 cL_law 9 wsL_law RL D tys Z A) (hZ : q_St Z) {cI cG cJ : ClassId} (hI : tys[0]? = some (cI, .int)) (hG : tys[1]? = some (cG, .object "SortCases$State")) (hJ : tys[2]? = some (cJ, .long)) (hN : q_Ns Z) {ad aw av : Nat → Nat} {tK : Nat} (hKs : q_Ks Z ad aw av tK) {tL tH : Nat} (hVs : q_Vs Z tL tH) (hXs : q_Xs Z) (hlT : l.stackTraces = false) (hXb : va_X b LL xs s9 s9.heap) (hbl : b < s9.heap.size) (hbA : ¬ A b) (hR : R = ({ frames := 12, cells := 601024, slots := 7293034, locals := 454 } : Room)) (hi : i + 3 ≤ LL) (hL : LL ≤ 1536) (hRs : law_I cG cI cJ x y o Rs) (kk : ∀ Rs', law_I cG cI cJ x y o Rs' → q_V p9 l e9 R s9 m9 args below meth c9 D A 9 Q (80 + i + 1) (6951 + 2 * i + 6) 1304 [(4, .int (nI i)), (3, .ref o), (2, .ref y), (1, .ref x), (0, .ref b)] [] Rs') : q_V p9 l e9 R s9 m9 args below meth c9 D A 9 Q (80 + i) (6951 + 2 * i) 682 [(4, .int (nI i)), (3, .ref o), (2, .ref y), (1, .ref x), (0, .ref b)] [] Rs := by
  have hcI := hI
  have hcG := hG
  have B : R = ({ frames := 12, cells := 601024, slots := 7293034, locals := 454 } : Room) ∧ True := ⟨hR, trivial⟩
  have hts := C.2.2.2.2.1
  obtain ⟨⟨bx, at0, ln, sc⟩, sv, hsn, ⟨sb, sa, sl, ss⟩, ⟨nb, na, nl, ns⟩, tx, fd, g, R1, R2, ⟨aO, aY, aN, aT, aK, aB, aL, aS, naB, naL, naS, kb, ka, wX, wO, wA, wB, wL, wH, vO, vA, vB, vL, wT, wK, rX, ⟨rO, rA, rB, rL⟩, rH, ⟨gO, gA, gB, gL⟩, rT, rK, rfl⟩, ⟨mS, mZ, mV, mN, mU, mD, hh, ⟨zb, za, zl, zs⟩, dx, ps, wP, wQ, wZ, wV, wN, wU, wD, rP, rQ, rZ, rV, rN, rU, rD, rfl⟩, hIv, hIs, q4, q8, hsn6, hl6, rfl⟩ := hRs
  have rO : k_isO cI aO aB aL aS sc wO := rO
  have rA : k_isA cI aS sc wA := rA
  have rB : k_isB cI aB bx at0 wB := rB
  have rL : k_isL cI aL ln wL := rL
  have gO : k_isO cI aN naB naL naS ss vO := gO
  have gA : k_isA cI naS ss vA := gA
  have gB : k_isB cI naB sb sa vB := gB
  have gL : k_isL cI naL sl vL := gL
  have rQ : k_isQ cI mS bx at0 ln sc wQ := rQ
  have rZ : k_isQ cI mZ zb za zl zs wZ := rZ
  have rN : k_isQ cI mN nb na nl ns wN := rN
  have hll : ln.length ≤ 40 := rL.1.1
  have htl : tx.length ≤ 60 := rT.1.1
  obtain ⟨v, hxv⟩ : ∃ v, xs (i + 1) = v := ⟨_, rfl⟩
  obtain ⟨v2, hxv2⟩ : ∃ v2, xs (i + 2) = v2 := ⟨_, rfl⟩
  refine q_eqR (Rs' := [wX, wO, wA, wB, wL, wH, vO, vA, vB, vL, wT, wK, wP, wQ, wZ, wV, wN, wU, wD, [(o, .inl (cJ, 1, .inr (.inl g)))]]) rfl ?_
  by_cases hv : (0 : Int32) ≤ v
  · obtain ⟨c, hc, rfl⟩ := k_exn hv
    refine q_aload_n C dL_law_682 683 3 rfl rfl ?_
    refine q_aload_n C dL_law_683 684 4 rfl rfl ?_
    refine q_iload C dL_law_684 686 0 rfl rfl ?_
    refine q_iconst (v := nI 1) C dL_law_686 687 rfl (by decide) ?_
    refine q_iadd (v := nI (i + 1)) C dL_law_687 688 rfl (q_nadd (by omega)) ?_
    refine q_sld (v := nI c) C hXb hbl hbA (i + 1) rfl (by omega) (by omega) hxv dL_law_688 689 rfl ?_
    refine q_aload_n C dL_law_689 690 1 rfl rfl ?_
    refine q_reord [0, 1, 2, 4, 19, 3, 5, 6, 7, 8, 9, 10, 11, 12, 13, 14, 15, 16, 17, 18] (by decide : ([0, 1, 2, 4, 19, 3, 5, 6, 7, 8, 9, 10, 11, 12, 13, 14, 15, 16, 17, 18] : List Nat).Perm (List.range 20)) (Rs' := [wX, wO, wA, wL, [(o, .inl (cJ, 1, .inr (.inl g)))], wB, wH, vO, vA, vB, vL, wT, wK, wP, wQ, wZ, wV, wN, wU, wD]) rfl rfl ?_
    refine q_resp (Rs' := [[wX, wO, wA, wL].flatten, [(o, .inl (cJ, 1, .inr (.inl g)))], wB, wH, vO, vA, vB, vL, wT, wK, wP, wQ, wZ, wV, wN, wU, wD]) (by simp) ?_
    refine q_callSW (n := 3) (As := [.ref x, .int (nI c), .ref o]) (rest := []) (Rr := [wB, wH, vO, vA, vB, vL, wT, wK, wP, wQ, wZ, wV, wN, wU, wD]) C (c_L_told_ok l hZ hJ x o (nI c) (r := k_ch ln c) (q_hd (k_isX_recv rX)) (q_Cflat (List.append_nil _).symm (c_X6_told_b l hZ hI hN x aO aY aN hsn aT aK wX rX aB aL aS sc wO rO wA rA ln wL rL c (by omega))) (Nat.le_of_ble_eq_true rfl) (Nat.le_of_ble_eq_true rfl) rfl rfl (fun _ _ _ h => h.1) g) gL_law_L_told rfl rfl rfl (by decide +kernel) B.1 ⟨Nat.le_of_ble_eq_true rfl, Nat.le_of_ble_eq_true rfl⟩ rfl rfl (Nat.le_of_ble_eq_true rfl) dL_law_690 ⟨(by show (80 + i) + 0 ≤ 601024; omega), (by show (6951 + 2 * i) + 0 ≤ 7293034; omega)⟩ [0, 1] [2, 3, 4, 5, 6, 7, 8, 9, 10, 11, 12, 13, 14, 15, 16] (by decide : ([0, 1] ++ ([2, 3, 4, 5, 6, 7, 8, 9, 10, 11, 12, 13, 14, 15, 16] : List Nat)).Perm (List.range 17)) rfl rfl 693 rfl (fun v0 R0 t0 ht0 hp0 => ?_)
    obtain ⟨rfl, R1, t1, ⟨-, rfl⟩, rfl⟩ := hp0
    refine q_eqs (st' := [.int (nI 0)]) rfl ?_
    refine q_resp (Rs' := [wX, wO, wA, wL, [(o, .inl (cJ, 1, .inr (.inl (va_up g 0 (k_ch ln c).toInt64))))], wB, wH, vO, vA, vB, vL, wT, wK, wP, wQ, wZ, wV, wN, wU, wD]) (by simp) ?_
    refine q_reord [0, 1, 2, 5, 3, 6, 7, 8, 9, 10, 11, 12, 13, 14, 15, 16, 17, 18, 19, 4] (by decide : ([0, 1, 2, 5, 3, 6, 7, 8, 9, 10, 11, 12, 13, 14, 15, 16, 17, 18, 19, 4] : List Nat).Perm (List.range 20)) (Rs' := [wX, wO, wA, wB, wL, wH, vO, vA, vB, vL, wT, wK, wP, wQ, wZ, wV, wN, wU, wD, [(o, .inl (cJ, 1, .inr (.inl (va_up g 0 (k_ch ln c).toInt64))))]]) rfl rfl ?_
    refine q_istore C dL_law_693 695 rfl [(5, .int (nI 0)), (4, .int (nI i)), (3, .ref o), (2, .ref y), (1, .ref x), (0, .ref b)] (by decide) rfl ?_
    refine q_aload_n C dL_law_695 696 3 rfl rfl ?_
    refine q_aload_n C dL_law_696 697 5 rfl rfl ?_
    refine q_iload C dL_law_697 699 1 rfl rfl ?_
    refine q_iconst (v := nI 1) C dL_law_699 700 rfl (by decide) ?_
    refine q_iadd (v := nI (i + 1)) C dL_law_700 701 rfl (q_nadd (by omega)) ?_
    refine q_sld (v := nI c) C hXb hbl hbA (i + 1) rfl (by omega) (by omega) hxv dL_law_701 702 rfl ?_
    refine q_callV (k := 12) (ci := 6) (n := 1) (rest := []) (Rr := [wX, wO, wA, wB, wL, wH, vO, vA, vB, vL, wT, wK, wZ, wV, wN, wU, wD, [(o, .inl (cJ, 1, .inr (.inl (va_up g 0 (k_ch ln c).toInt64))))]]) C rfl (k_isP_recv rP) rfl (c_X7_told_b l hZ hI y mS mZ mV mN mU mD fd hh wP rP bx at0 ln sc wQ rQ c (by omega)) gL_law_X7_told rfl rfl rfl (by decide +kernel) B.1 ⟨Nat.le_of_ble_eq_true rfl, Nat.le_of_ble_eq_true rfl⟩ rfl rfl (Nat.le_of_ble_eq_true rfl) dL_law_702 ⟨(by show ((80 + i) + 0) + 0 ≤ 601024; omega), (by show ((6951 + 2 * i) + 0) + 0 ≤ 7293034; omega)⟩ [12, 13] [0, 1, 2, 3, 4, 5, 6, 7, 8, 9, 10, 11, 14, 15, 16, 17, 18, 19] (by decide : ([12, 13] ++ ([0, 1, 2, 3, 4, 5, 6, 7, 8, 9, 10, 11, 14, 15, 16, 17, 18, 19] : List Nat)).Perm (List.range 20)) rfl rfl 705 rfl (fun v0 R0 t0 ht0 hp0 => ?_)
    obtain ⟨rfl, wP_702, hwP_702, rfl⟩ := hp0
    refine q_eqs (st' := [.int (k_ch ln c)]) rfl ?_
    refine q_reord [2, 3, 4, 5, 6, 7, 8, 9, 10, 11, 12, 13, 0, 1, 14, 15, 16, 17, 18, 19] (by decide : ([2, 3, 4, 5, 6, 7, 8, 9, 10, 11, 12, 13, 0, 1, 14, 15, 16, 17, 18, 19] : List Nat).Perm (List.range 20)) (Rs' := [wX, wO, wA, wB, wL, wH, vO, vA, vB, vL, wT, wK, wP_702, wQ, wZ, wV, wN, wU, wD, [(o, .inl (cJ, 1, .inr (.inl (va_up g 0 (k_ch ln c).toInt64))))]]) rfl rfl ?_
    refine q_istore C dL_law_705 707 rfl [(6, .int (k_ch ln c)), (5, .int (nI 0)), (4, .int (nI i)), (3, .ref o), (2, .ref y), (1, .ref x), (0, .ref b)] (by decide) rfl ?_
    refine q_aload_n C dL_law_707 708 4 rfl rfl ?_
    refine q_callV (k := 12) (ci := 6) (n := 0) (rest := []) (Rr := [wX, wO, wA, wB, wL, wH, vO, vA, vB, vL, wT, wK, wQ, wZ, wV, wN, wU, wD, [(o, .inl (cJ, 1, .inr (.inl (va_up g 0 (k_ch ln c).toInt64))))]]) C rfl (k_isP_recv hwP_702) rfl (c_X7_thrown l hZ hI y mS mZ mV mN mU mD (upd fd 0 (nI 0)) hh wP_702 hwP_702) gL_law_X7_thrown rfl rfl rfl (by decide +kernel) B.1 ⟨Nat.le_of_ble_eq_true rfl, Nat.le_of_ble_eq_true rfl⟩ rfl rfl (Nat.le_of_ble_eq_true rfl) dL_law_708 ⟨(by show ((80 + i) + 0) + 0 ≤ 601024; omega), (by show ((6951 + 2 * i) + 0) + 0 ≤ 7293034; omega)⟩ [12] [0, 1, 2, 3, 4, 5, 6, 7, 8, 9, 10, 11, 13, 14, 15, 16, 17, 18, 19] (by decide : ([12] ++ ([0, 1, 2, 3, 4, 5, 6, 7, 8, 9, 10, 11, 13, 14, 15, 16, 17, 18, 19] : List Nat)).Perm (List.range 20)) rfl rfl 711 rfl (fun v0 R0 t0 ht0 hp0 => ?_)
    obtain ⟨rfl, rfl⟩ := hp0
    refine q_eqs (st' := [.int ((upd fd 0 (nI 0)) 0)]) rfl ?_
    refine q_reord [1, 2, 3, 4, 5, 6, 7, 8, 9, 10, 11, 12, 0, 13, 14, 15, 16, 17, 18, 19] (by decide : ([1, 2, 3, 4, 5, 6, 7, 8, 9, 10, 11, 12, 0, 13, 14, 15, 16, 17, 18, 19] : List Nat).Perm (List.range 20)) (Rs' := [wX, wO, wA, wB, wL, wH, vO, vA, vB, vL, wT, wK, wP_702, wQ, wZ, wV, wN, wU, wD, [(o, .inl (cJ, 1, .inr (.inl (va_up g 0 (k_ch ln c).toInt64))))]]) rfl rfl ?_
    refine q_eqs (st' := [.int (nI 0)]) (by rw [pk_us]) ?_
    refine q_iload C dL_law_711 713 1 rfl rfl ?_
    refine q_icmp_eq C dL_law_713 716 718 rfl (by decide) (nI_eq (by omega) (by omega)) (fun h713 => ?_) (fun h713 => False.elim (by first | omega | simp_all))
    refine q_iload C dL_law_718 720 1 rfl rfl ?_
    refine q_if_ne C dL_law_720 723 735 rfl (by decide) (q_eq0 (by omega)) (fun h720 => False.elim (by first | omega | simp_all)) (fun h720 => ?_)
    refine q_aload_n C dL_law_723 724 3 rfl rfl ?_
    refine q_iconst (v := nI 0) C dL_law_724 725 rfl (by decide) ?_
    refine q_lald (k := 19) (j := 0) (v := (k_ch ln c).toInt64) C dL_law_725 726 rfl rfl rfl hJ 0 rfl (by decide) (by decide) k_up_s ?_
    refine q_iload C dL_law_726 728 0 rfl rfl ?_
    refine q_i2l (v := ((k_ch ln c) : Int32).toInt64) C dL_law_728 729 rfl rfl ?_
    refine q_lcmp C dL_law_729 730 rfl ?_
    refine q_if_eq C dL_law_730 733 735 rfl (by decide) Iff.rfl (fun h730 => ?_) (fun h730 => False.elim (h730 (lg_self _)))
    refine q_goto C dL_law_735 1304 (by decide) ?_
    refine q_sub (L' := [(4, .int (nI i)), (3, .ref o), (2, .ref y), (1, .ref x), (0, .ref b)]) [2, 3, 4, 5, 6] rfl ?_
    refine q_widen (k := 80 + i + 1) (n := 6951 + 2 * i + 6) (by omega) (by omega) ?_
    exact kk _ ⟨(bx, at0, ln, sc), sv, hsn, (sb, sa, sl, ss), (nb, na, nl, ns), tx, upd fd 0 (nI 0), va_up g 0 (k_ch ln c).toInt64, _, _, ⟨_, _, _, _, _, _, _, _, _, _, _, _, _, _, _, _, _, _, _, _, _, _, _, _, _, rX, ⟨rO, rA, rB, rL⟩, rH, ⟨gO, gA, gB, gL⟩, rT, rK, rfl⟩, ⟨_, _, _, _, _, _, _, (zb, za, zl, zs), _, _, _, _, _, _, _, _, _, hwP_702, rQ, rZ, rV, rN, rU, rD, rfl⟩, hIv, hIs, (by rw [pk_un (by decide)]; exact q4), (by rw [pk_un (by decide)]; exact q8), (k_Sn_eq hsn6 (by rw [pk_un (by decide)])), hl6, rfl⟩
    
  · refine q_aload_n C dL_law_682 683 3 rfl rfl ?_
    refine q_aload_n C dL_law_683 684 4 rfl rfl ?_
    refine q_iload C dL_law_684 686 0 rfl rfl ?_
    refine q_iconst (v := nI 1) C dL_law_686 687 rfl (by decide) ?_
    refine q_iadd (v := nI (i + 1)) C dL_law_687 688 rfl (q_nadd (by omega)) ?_
    refine q_sld (v := v) C hXb hbl hbA (i + 1) rfl (by omega) (by omega) hxv dL_law_688 689 rfl ?_
    refine q_aload_n C dL_law_689 690 1 rfl rfl ?_
    refine q_reord [0, 19, 1, 2, 3, 4, 5, 6, 7, 8, 9, 10, 11, 12, 13, 14, 15, 16, 17, 18] (by decide : ([0, 19, 1, 2, 3, 4, 5, 6, 7, 8, 9, 10, 11, 12, 13, 14, 15, 16, 17, 18] : List Nat).Perm (List.range 20)) (Rs' := [wX, [(o, .inl (cJ, 1, .inr (.inl g)))], wO, wA, wB, wL, wH, vO, vA, vB, vL, wT, wK, wP, wQ, wZ, wV, wN, wU, wD]) rfl rfl ?_
    refine q_resp (Rs' := [[wX].flatten, [(o, .inl (cJ, 1, .inr (.inl g)))], wO, wA, wB, wL, wH, vO, vA, vB, vL, wT, wK, wP, wQ, wZ, wV, wN, wU, wD]) (by simp) ?_
    refine q_callSW (n := 3) (As := [.ref x, .int v, .ref o]) (rest := []) (Rr := [wO, wA, wB, wL, wH, vO, vA, vB, vL, wT, wK, wP, wQ, wZ, wV, wN, wU, wD]) C (c_L_told_x1 l hZ hJ hXs x o v (q_hd (k_isX_recv rX)) (q_Xflat (List.append_nil _).symm (c_X6_told_a l hZ hI hN hXs hlT x aO aY aN hsn aT aK wX rX v hv)) (Nat.le_of_ble_eq_true rfl) (Nat.le_of_ble_eq_true rfl) rfl rfl g) gL_law_L_told rfl rfl rfl (by decide +kernel) B.1 ⟨Nat.le_of_ble_eq_true rfl, Nat.le_of_ble_eq_true rfl⟩ rfl rfl (Nat.le_of_ble_eq_true rfl) dL_law_690 ⟨(by show (80 + i) + 1 ≤ 601024; omega), (by show (6951 + 2 * i) + 6 ≤ 7293034; omega)⟩ [0, 1] [2, 3, 4, 5, 6, 7, 8, 9, 10, 11, 12, 13, 14, 15, 16, 17, 18, 19] (by decide : ([0, 1] ++ ([2, 3, 4, 5, 6, 7, 8, 9, 10, 11, 12, 13, 14, 15, 16, 17, 18, 19] : List Nat)).Perm (List.range 20)) rfl rfl 693 rfl (fun v0 R0 t0 ht0 hp0 => ?_)
    obtain ⟨rfl, rfl⟩ := hp0
    refine q_eqs (st' := [.int (nI 1)]) rfl ?_
    refine q_resp (Rs' := [wX, [(o, .inl (cJ, 1, .inr (.inl g)))], wO, wA, wB, wL, wH, vO, vA, vB, vL, wT, wK, wP, wQ, wZ, wV, wN, wU, wD]) (by simp) ?_
    refine q_reord [0, 2, 3, 4, 5, 6, 7, 8, 9, 10, 11, 12, 13, 14, 15, 16, 17, 18, 19, 1] (by decide : ([0, 2, 3, 4, 5, 6, 7, 8, 9, 10, 11, 12, 13, 14, 15, 16, 17, 18, 19, 1] : List Nat).Perm (List.range 20)) (Rs' := [wX, wO, wA, wB, wL, wH, vO, vA, vB, vL, wT, wK, wP, wQ, wZ, wV, wN, wU, wD, [(o, .inl (cJ, 1, .inr (.inl g)))]]) rfl rfl ?_
    refine q_istore C dL_law_693 695 rfl [(5, .int (nI 1)), (4, .int (nI i)), (3, .ref o), (2, .ref y), (1, .ref x), (0, .ref b)] (by decide) rfl ?_
    refine q_aload_n C dL_law_695 696 3 rfl rfl ?_
    refine q_aload_n C dL_law_696 697 5 rfl rfl ?_
    refine q_iload C dL_law_697 699 1 rfl rfl ?_
    refine q_iconst (v := nI 1) C dL_law_699 700 rfl (by decide) ?_
    refine q_iadd (v := nI (i + 1)) C dL_law_700 701 rfl (q_nadd (by omega)) ?_
    refine q_sld (v := v) C hXb hbl hbA (i + 1) rfl (by omega) (by omega) hxv dL_law_701 702 rfl ?_
    refine q_callV (k := 12) (ci := 6) (n := 1) (rest := []) (Rr := [wX, wO, wA, wB, wL, wH, vO, vA, vB, vL, wT, wK, wQ, wZ, wV, wN, wU, wD, [(o, .inl (cJ, 1, .inr (.inl g)))]]) C rfl (k_isP_recv rP) rfl (c_X7_told_a l hZ hI y mS mZ mV mN mU mD fd hh wP rP v hv) gL_law_X7_told rfl rfl rfl (by decide +kernel) B.1 ⟨Nat.le_of_ble_eq_true rfl, Nat.le_of_ble_eq_true rfl⟩ rfl rfl (Nat.le_of_ble_eq_true rfl) dL_law_702 ⟨(by show ((80 + i) + 1) + 0 ≤ 601024; omega), (by show ((6951 + 2 * i) + 6) + 0 ≤ 7293034; omega)⟩ [12] [0, 1, 2, 3, 4, 5, 6, 7, 8, 9, 10, 11, 13, 14, 15, 16, 17, 18, 19] (by decide : ([12] ++ ([0, 1, 2, 3, 4, 5, 6, 7, 8, 9, 10, 11, 13, 14, 15, 16, 17, 18, 19] : List Nat)).Perm (List.range 20)) rfl rfl 705 rfl (fun v0 R0 t0 ht0 hp0 => ?_)
    obtain ⟨rfl, w_702, hw_702, rfl⟩ := hp0
    refine q_eqs (st' := [.int (nI 0)]) rfl ?_
    refine q_reord [1, 2, 3, 4, 5, 6, 7, 8, 9, 10, 11, 12, 0, 13, 14, 15, 16, 17, 18, 19] (by decide : ([1, 2, 3, 4, 5, 6, 7, 8, 9, 10, 11, 12, 0, 13, 14, 15, 16, 17, 18, 19] : List Nat).Perm (List.range 20)) (Rs' := [wX, wO, wA, wB, wL, wH, vO, vA, vB, vL, wT, wK, w_702, wQ, wZ, wV, wN, wU, wD, [(o, .inl (cJ, 1, .inr (.inl g)))]]) rfl rfl ?_
    refine q_istore C dL_law_705 707 rfl [(6, .int (nI 0)), (5, .int (nI 1)), (4, .int (nI i)), (3, .ref o), (2, .ref y), (1, .ref x), (0, .ref b)] (by decide) rfl ?_
    refine q_aload_n C dL_law_707 708 4 rfl rfl ?_
    refine q_callV (k := 12) (ci := 6) (n := 0) (rest := []) (Rr := [wX, wO, wA, wB, wL, wH, vO, vA, vB, vL, wT, wK, wQ, wZ, wV, wN, wU, wD, [(o, .inl (cJ, 1, .inr (.inl g)))]]) C rfl (k_isP_recv hw_702) rfl (c_X7_thrown l hZ hI y mS mZ mV mN mU mD (upd (upd fd 0 (nI 0)) 0 (nI 1)) hh w_702 hw_702) gL_law_X7_thrown rfl rfl rfl (by decide +kernel) B.1 ⟨Nat.le_of_ble_eq_true rfl, Nat.le_of_ble_eq_true rfl⟩ rfl rfl (Nat.le_of_ble_eq_true rfl) dL_law_708 ⟨(by show ((80 + i) + 1) + 0 ≤ 601024; omega), (by show ((6951 + 2 * i) + 6) + 0 ≤ 7293034; omega)⟩ [12] [0, 1, 2, 3, 4, 5, 6, 7, 8, 9, 10, 11, 13, 14, 15, 16, 17, 18, 19] (by decide : ([12] ++ ([0, 1, 2, 3, 4, 5, 6, 7, 8, 9, 10, 11, 13, 14, 15, 16, 17, 18, 19] : List Nat)).Perm (List.range 20)) rfl rfl 711 rfl (fun v0 R0 t0 ht0 hp0 => ?_)
    obtain ⟨rfl, rfl⟩ := hp0
    refine q_eqs (st' := [.int ((upd (upd fd 0 (nI 0)) 0 (nI 1)) 0)]) rfl ?_
    refine q_reord [1, 2, 3, 4, 5, 6, 7, 8, 9, 10, 11, 12, 0, 13, 14, 15, 16, 17, 18, 19] (by decide : ([1, 2, 3, 4, 5, 6, 7, 8, 9, 10, 11, 12, 0, 13, 14, 15, 16, 17, 18, 19] : List Nat).Perm (List.range 20)) (Rs' := [wX, wO, wA, wB, wL, wH, vO, vA, vB, vL, wT, wK, w_702, wQ, wZ, wV, wN, wU, wD, [(o, .inl (cJ, 1, .inr (.inl g)))]]) rfl rfl ?_
    refine q_eqs (st' := [.int (nI 1)]) (by rw [pk_us]) ?_
    refine q_iload C dL_law_711 713 1 rfl rfl ?_
    refine q_icmp_eq C dL_law_713 716 718 rfl (by decide) (nI_eq (by omega) (by omega)) (fun h713 => ?_) (fun h713 => False.elim (by first | omega | simp_all))
    refine q_iload C dL_law_718 720 1 rfl rfl ?_
    refine q_if_ne C dL_law_720 723 735 rfl (by decide) (q_eq0 (by omega)) (fun h720 => ?_) (fun h720 => False.elim (by first | omega | simp_all))
    refine q_goto C dL_law_735 1304 (by decide) ?_
    refine q_sub (L' := [(4, .int (nI i)), (3, .ref o), (2, .ref y), (1, .ref x), (0, .ref b)]) [2, 3, 4, 5, 6] rfl ?_
    refine q_widen (k := 80 + i + 1) (n := 6951 + 2 * i + 6) (by omega) (by omega) ?_
    exact kk _ ⟨(bx, at0, ln, sc), sv, hsn, (sb, sa, sl, ss), (nb, na, nl, ns), tx, upd (upd fd 0 (nI 0)) 0 (nI 1), g, _, _, ⟨_, _, _, _, _, _, _, _, _, _, _, _, _, _, _, _, _, _, _, _, _, _, _, _, _, rX, ⟨rO, rA, rB, rL⟩, rH, ⟨gO, gA, gB, gL⟩, rT, rK, rfl⟩, ⟨_, _, _, _, _, _, _, (zb, za, zl, zs), _, _, _, _, _, _, _, _, _, hw_702, rQ, rZ, rV, rN, rU, rD, rfl⟩, hIv, hIs, (by rw [pk_un (by decide), pk_un (by decide)]; exact q4), (by rw [pk_un (by decide), pk_un (by decide)]; exact q8), (k_Sn_eq hsn6 (by rw [pk_un (by decide), pk_un (by decide)])), hl6, rfl⟩
    

set_option maxHeartbeats 1000000 in
set_option maxRecDepth 100000 in
theorem law_c12 {p9 : Program} {l : Launch} {e9 : Env} {R : Room} {s9 : State} {m9 : MethodId} {args : Array Value} {below : List Frame} {meth : Method} {c9 : Code} {Q : State → Prop} {D : va_G} {tys : List (ClassId × FieldType)} {A : Nat → Prop} {Z : (Nat → Prop) → State → Heap → Prop} {b LL : Nat} {xs : Nat → Int32} {x y o i : Nat} {Rs : List va_W} (C : q_C p9 s9 m9 args c9 cL_law 9 wsL_law RL D tys Z A) (hZ : q_St Z) {cI cG cJ : ClassId} (hI : tys[0]? = some (cI, .int)) (hG : tys[1]? = some (cG, .object "SortCases$State")) (hJ : tys[2]? = some (cJ, .long)) (hN : q_Ns Z) {ad aw av : Nat → Nat} {tK : Nat} (hKs : q_Ks Z ad aw av tK) {tL tH : Nat} (hVs : q_Vs Z tL tH) (hXs : q_Xs Z) (hlT : l.stackTraces = false) (hXb : va_X b LL xs s9 s9.heap) (hbl : b < s9.heap.size) (hbA : ¬ A b) (hR : R = ({ frames := 12, cells := 601024, slots := 7293034, locals := 454 } : Room)) (hi : i + 3 ≤ LL) (hL : LL ≤ 1536) (hRs : law_I cG cI cJ x y o Rs) (kk : ∀ Rs', law_I cG cI cJ x y o Rs' → q_V p9 l e9 R s9 m9 args below meth c9 D A 9 Q (80 + i + 1) (6951 + 2 * i + 6) 1304 [(4, .int (nI i)), (3, .ref o), (2, .ref y), (1, .ref x), (0, .ref b)] [] Rs') : q_V p9 l e9 R s9 m9 args below meth c9 D A 9 Q (80 + i) (6951 + 2 * i) 738 [(4, .int (nI i)), (3, .ref o), (2, .ref y), (1, .ref x), (0, .ref b)] [] Rs := by
  have hcI := hI
  have hcG := hG
  have B : R = ({ frames := 12, cells := 601024, slots := 7293034, locals := 454 } : Room) ∧ True := ⟨hR, trivial⟩
  have hts := C.2.2.2.2.1
  obtain ⟨⟨bx, at0, ln, sc⟩, sv, hsn, ⟨sb, sa, sl, ss⟩, ⟨nb, na, nl, ns⟩, tx, fd, g, R1, R2, ⟨aO, aY, aN, aT, aK, aB, aL, aS, naB, naL, naS, kb, ka, wX, wO, wA, wB, wL, wH, vO, vA, vB, vL, wT, wK, rX, ⟨rO, rA, rB, rL⟩, rH, ⟨gO, gA, gB, gL⟩, rT, rK, rfl⟩, ⟨mS, mZ, mV, mN, mU, mD, hh, ⟨zb, za, zl, zs⟩, dx, ps, wP, wQ, wZ, wV, wN, wU, wD, rP, rQ, rZ, rV, rN, rU, rD, rfl⟩, hIv, hIs, q4, q8, hsn6, hl6, rfl⟩ := hRs
  have rO : k_isO cI aO aB aL aS sc wO := rO
  have rA : k_isA cI aS sc wA := rA
  have rB : k_isB cI aB bx at0 wB := rB
  have rL : k_isL cI aL ln wL := rL
  have gO : k_isO cI aN naB naL naS ss vO := gO
  have gA : k_isA cI naS ss vA := gA
  have gB : k_isB cI naB sb sa vB := gB
  have gL : k_isL cI naL sl vL := gL
  have rQ : k_isQ cI mS bx at0 ln sc wQ := rQ
  have rZ : k_isQ cI mZ zb za zl zs wZ := rZ
  have rN : k_isQ cI mN nb na nl ns wN := rN
  have hll : ln.length ≤ 40 := rL.1.1
  have htl : tx.length ≤ 60 := rT.1.1
  obtain ⟨v, hxv⟩ : ∃ v, xs (i + 1) = v := ⟨_, rfl⟩
  obtain ⟨v2, hxv2⟩ : ∃ v2, xs (i + 2) = v2 := ⟨_, rfl⟩
  refine q_eqR (Rs' := [wX, wO, wA, wB, wL, wH, vO, vA, vB, vL, wT, wK, wP, wQ, wZ, wV, wN, wU, wD, [(o, .inl (cJ, 1, .inr (.inl g)))]]) rfl ?_
  by_cases hs : sv.length = 0
  · refine q_aload_n C dL_law_738 739 3 rfl rfl ?_
    refine q_aload_n C dL_law_739 740 1 rfl rfl ?_
    refine q_reord [0, 5, 19, 1, 2, 3, 4, 6, 7, 8, 9, 10, 11, 12, 13, 14, 15, 16, 17, 18] (by decide : ([0, 5, 19, 1, 2, 3, 4, 6, 7, 8, 9, 10, 11, 12, 13, 14, 15, 16, 17, 18] : List Nat).Perm (List.range 20)) (Rs' := [wX, wH, [(o, .inl (cJ, 1, .inr (.inl g)))], wO, wA, wB, wL, vO, vA, vB, vL, wT, wK, wP, wQ, wZ, wV, wN, wU, wD]) rfl rfl ?_
    refine q_resp (Rs' := [[wX, wH].flatten, [(o, .inl (cJ, 1, .inr (.inl g)))], wO, wA, wB, wL, vO, vA, vB, vL, wT, wK, wP, wQ, wZ, wV, wN, wU, wD]) (by simp) ?_
    refine q_callSW (n := 2) (As := [.ref x, .ref o]) (rest := []) (Rr := [wO, wA, wB, wL, vO, vA, vB, vL, wT, wK, wP, wQ, wZ, wV, wN, wU, wD]) C (c_L_undo_x1 l hZ hJ hXs x o  (q_hd (k_isX_recv rX)) (q_Xflat (List.append_nil _).symm (c_X6_undo_a l hZ hI hN hG hXs hlT x aO aY aN hsn aT aK wX rX sv wH rH hs)) (Nat.le_of_ble_eq_true rfl) (Nat.le_of_ble_eq_true rfl) rfl rfl g) gL_law_L_undo rfl rfl rfl (by decide +kernel) B.1 ⟨Nat.le_of_ble_eq_true rfl, Nat.le_of_ble_eq_true rfl⟩ rfl rfl (Nat.le_of_ble_eq_true rfl) dL_law_740 ⟨(by show (80 + i) + 1 ≤ 601024; omega), (by show (6951 + 2 * i) + 6 ≤ 7293034; omega)⟩ [0, 1] [2, 3, 4, 5, 6, 7, 8, 9, 10, 11, 12, 13, 14, 15, 16, 17, 18] (by decide : ([0, 1] ++ ([2, 3, 4, 5, 6, 7, 8, 9, 10, 11, 12, 13, 14, 15, 16, 17, 18] : List Nat)).Perm (List.range 19)) rfl rfl 743 rfl (fun v0 R0 t0 ht0 hp0 => ?_)
    obtain ⟨rfl, rfl⟩ := hp0
    refine q_eqs (st' := [.int (nI 1)]) rfl ?_
    refine q_resp (Rs' := [wX, wH, [(o, .inl (cJ, 1, .inr (.inl g)))], wO, wA, wB, wL, vO, vA, vB, vL, wT, wK, wP, wQ, wZ, wV, wN, wU, wD]) (by simp) ?_
    refine q_reord [0, 3, 4, 5, 6, 1, 7, 8, 9, 10, 11, 12, 13, 14, 15, 16, 17, 18, 19, 2] (by decide : ([0, 3, 4, 5, 6, 1, 7, 8, 9, 10, 11, 12, 13, 14, 15, 16, 17, 18, 19, 2] : List Nat).Perm (List.range 20)) (Rs' := [wX, wO, wA, wB, wL, wH, vO, vA, vB, vL, wT, wK, wP, wQ, wZ, wV, wN, wU, wD, [(o, .inl (cJ, 1, .inr (.inl g)))]]) rfl rfl ?_
    refine q_istore C dL_law_743 745 rfl [(5, .int (nI 1)), (4, .int (nI i)), (3, .ref o), (2, .ref y), (1, .ref x), (0, .ref b)] (by decide) rfl ?_
    refine q_aload_n C dL_law_745 746 3 rfl rfl ?_
    refine q_callV (k := 12) (ci := 6) (n := 0) (rest := []) (Rr := [wX, wO, wA, wB, wL, wH, vO, vA, vB, vL, wT, wK, wQ, wZ, wV, wN, wU, wD, [(o, .inl (cJ, 1, .inr (.inl g)))]]) C rfl (k_isP_recv rP) rfl (c_X7_undo_a l hZ hI y mS mZ mV mN mU mD fd hh wP rP (by rw [q4, hs])) gL_law_X7_undo rfl rfl rfl (by decide +kernel) B.1 ⟨Nat.le_of_ble_eq_true rfl, Nat.le_of_ble_eq_true rfl⟩ rfl rfl (Nat.le_of_ble_eq_true rfl) dL_law_746 ⟨(by show ((80 + i) + 1) + 0 ≤ 601024; omega), (by show ((6951 + 2 * i) + 6) + 0 ≤ 7293034; omega)⟩ [12] [0, 1, 2, 3, 4, 5, 6, 7, 8, 9, 10, 11, 13, 14, 15, 16, 17, 18, 19] (by decide : ([12] ++ ([0, 1, 2, 3, 4, 5, 6, 7, 8, 9, 10, 11, 13, 14, 15, 16, 17, 18, 19] : List Nat)).Perm (List.range 20)) rfl rfl 749 rfl (fun v0 R0 t0 ht0 hp0 => ?_)
    obtain ⟨rfl, w_746, hw_746, rfl⟩ := hp0
    refine q_eqs (st' := [.int (nI 0)]) rfl ?_
    refine q_reord [1, 2, 3, 4, 5, 6, 7, 8, 9, 10, 11, 12, 0, 13, 14, 15, 16, 17, 18, 19] (by decide : ([1, 2, 3, 4, 5, 6, 7, 8, 9, 10, 11, 12, 0, 13, 14, 15, 16, 17, 18, 19] : List Nat).Perm (List.range 20)) (Rs' := [wX, wO, wA, wB, wL, wH, vO, vA, vB, vL, wT, wK, w_746, wQ, wZ, wV, wN, wU, wD, [(o, .inl (cJ, 1, .inr (.inl g)))]]) rfl rfl ?_
    refine q_istore C dL_law_749 751 rfl [(6, .int (nI 0)), (5, .int (nI 1)), (4, .int (nI i)), (3, .ref o), (2, .ref y), (1, .ref x), (0, .ref b)] (by decide) rfl ?_
    refine q_aload_n C dL_law_751 752 4 rfl rfl ?_
    refine q_callV (k := 12) (ci := 6) (n := 0) (rest := []) (Rr := [wX, wO, wA, wB, wL, wH, vO, vA, vB, vL, wT, wK, wQ, wZ, wV, wN, wU, wD, [(o, .inl (cJ, 1, .inr (.inl g)))]]) C rfl (k_isP_recv hw_746) rfl (c_X7_thrown l hZ hI y mS mZ mV mN mU mD (upd (upd fd 0 (nI 0)) 0 (nI 1)) hh w_746 hw_746) gL_law_X7_thrown rfl rfl rfl (by decide +kernel) B.1 ⟨Nat.le_of_ble_eq_true rfl, Nat.le_of_ble_eq_true rfl⟩ rfl rfl (Nat.le_of_ble_eq_true rfl) dL_law_752 ⟨(by show ((80 + i) + 1) + 0 ≤ 601024; omega), (by show ((6951 + 2 * i) + 6) + 0 ≤ 7293034; omega)⟩ [12] [0, 1, 2, 3, 4, 5, 6, 7, 8, 9, 10, 11, 13, 14, 15, 16, 17, 18, 19] (by decide : ([12] ++ ([0, 1, 2, 3, 4, 5, 6, 7, 8, 9, 10, 11, 13, 14, 15, 16, 17, 18, 19] : List Nat)).Perm (List.range 20)) rfl rfl 755 rfl (fun v0 R0 t0 ht0 hp0 => ?_)
    obtain ⟨rfl, rfl⟩ := hp0
    refine q_eqs (st' := [.int ((upd (upd fd 0 (nI 0)) 0 (nI 1)) 0)]) rfl ?_
    refine q_reord [1, 2, 3, 4, 5, 6, 7, 8, 9, 10, 11, 12, 0, 13, 14, 15, 16, 17, 18, 19] (by decide : ([1, 2, 3, 4, 5, 6, 7, 8, 9, 10, 11, 12, 0, 13, 14, 15, 16, 17, 18, 19] : List Nat).Perm (List.range 20)) (Rs' := [wX, wO, wA, wB, wL, wH, vO, vA, vB, vL, wT, wK, w_746, wQ, wZ, wV, wN, wU, wD, [(o, .inl (cJ, 1, .inr (.inl g)))]]) rfl rfl ?_
    refine q_eqs (st' := [.int (nI 1)]) (by rw [pk_us]) ?_
    refine q_iload C dL_law_755 757 1 rfl rfl ?_
    refine q_icmp_eq C dL_law_757 760 762 rfl (by decide) (nI_eq (by omega) (by omega)) (fun h757 => ?_) (fun h757 => False.elim (by first | omega | simp_all))
    refine q_iload C dL_law_762 764 1 rfl rfl ?_
    refine q_if_ne C dL_law_764 767 779 rfl (by decide) (q_eq0 (by omega)) (fun h764 => ?_) (fun h764 => False.elim (by first | omega | simp_all))
    refine q_goto C dL_law_779 1304 (by decide) ?_
    refine q_sub (L' := [(4, .int (nI i)), (3, .ref o), (2, .ref y), (1, .ref x), (0, .ref b)]) [2, 3, 4, 5, 6] rfl ?_
    refine q_widen (k := 80 + i + 1) (n := 6951 + 2 * i + 6) (by omega) (by omega) ?_
    exact kk _ ⟨(bx, at0, ln, sc), sv, hsn, (sb, sa, sl, ss), (nb, na, nl, ns), tx, upd (upd fd 0 (nI 0)) 0 (nI 1), g, _, _, ⟨_, _, _, _, _, _, _, _, _, _, _, _, _, _, _, _, _, _, _, _, _, _, _, _, _, rX, ⟨rO, rA, rB, rL⟩, rH, ⟨gO, gA, gB, gL⟩, rT, rK, rfl⟩, ⟨_, _, _, _, _, _, _, (zb, za, zl, zs), _, _, _, _, _, _, _, _, _, hw_746, rQ, rZ, rV, rN, rU, rD, rfl⟩, hIv, hIs, (by rw [pk_un (by decide), pk_un (by decide)]; exact q4), (by rw [pk_un (by decide), pk_un (by decide)]; exact q8), (k_Sn_eq hsn6 (by rw [pk_un (by decide), pk_un (by decide)])), hl6, rfl⟩
    
  · refine q_aload_n C dL_law_738 739 3 rfl rfl ?_
    refine q_aload_n C dL_law_739 740 1 rfl rfl ?_
    refine q_reord [0, 1, 2, 3, 4, 5, 19, 6, 7, 8, 9, 10, 11, 12, 13, 14, 15, 16, 17, 18] (by decide : ([0, 1, 2, 3, 4, 5, 19, 6, 7, 8, 9, 10, 11, 12, 13, 14, 15, 16, 17, 18] : List Nat).Perm (List.range 20)) (Rs' := [wX, wO, wA, wB, wL, wH, [(o, .inl (cJ, 1, .inr (.inl g)))], vO, vA, vB, vL, wT, wK, wP, wQ, wZ, wV, wN, wU, wD]) rfl rfl ?_
    refine q_resp (Rs' := [[wX, wO, wA, wB, wL, wH].flatten, [(o, .inl (cJ, 1, .inr (.inl g)))], vO, vA, vB, vL, wT, wK, wP, wQ, wZ, wV, wN, wU, wD]) (by simp) ?_
    refine q_callSW (n := 2) (As := [.ref x, .ref o]) (rest := []) (Rr := [vO, vA, vB, vL, wT, wK, wP, wQ, wZ, wV, wN, wU, wD]) C (c_L_undo_ok l hZ hJ x o  (r := nI (sv.length - 1)) (q_hd (k_isX_recv rX)) (q_Cflat (List.append_nil _).symm (c_X6_undo_b l hZ hI hN hG x aO aY aN hsn aT aK wX rX aB aL aS sc wO rO wA rA bx at0 wB rB ln wL rL sv wH rH (by omega))) (Nat.le_of_ble_eq_true rfl) (Nat.le_of_ble_eq_true rfl) rfl rfl (fun _ _ _ h => h.1) g) gL_law_L_undo rfl rfl rfl (by decide +kernel) B.1 ⟨Nat.le_of_ble_eq_true rfl, Nat.le_of_ble_eq_true rfl⟩ rfl rfl (Nat.le_of_ble_eq_true rfl) dL_law_740 ⟨(by show (80 + i) + 0 ≤ 601024; omega), (by show (6951 + 2 * i) + 0 ≤ 7293034; omega)⟩ [0, 1] [2, 3, 4, 5, 6, 7, 8, 9, 10, 11, 12, 13, 14] (by decide : ([0, 1] ++ ([2, 3, 4, 5, 6, 7, 8, 9, 10, 11, 12, 13, 14] : List Nat)).Perm (List.range 15)) rfl rfl 743 rfl (fun v0 R0 t0 ht0 hp0 => ?_)
    obtain ⟨rfl, R1, t1, ⟨-, wO_740, hwO_740, wA_740, hwA_740, wB_740, hwB_740, wL_740, hwL_740, wH_740, hwH_740, rfl⟩, rfl⟩ := hp0
    refine q_eqs (st' := [.int (nI 0)]) rfl ?_
    refine q_resp (Rs' := [wX, wO_740, wA_740, wB_740, wL_740, wH_740, [(o, .inl (cJ, 1, .inr (.inl (va_up g 0 (nI (sv.length - 1)).toInt64))))], vO, vA, vB, vL, wT, wK, wP, wQ, wZ, wV, wN, wU, wD]) (by simp) ?_
    refine q_reord [0, 1, 2, 3, 4, 5, 7, 8, 9, 10, 11, 12, 13, 14, 15, 16, 17, 18, 19, 6] (by decide : ([0, 1, 2, 3, 4, 5, 7, 8, 9, 10, 11, 12, 13, 14, 15, 16, 17, 18, 19, 6] : List Nat).Perm (List.range 20)) (Rs' := [wX, wO_740, wA_740, wB_740, wL_740, wH_740, vO, vA, vB, vL, wT, wK, wP, wQ, wZ, wV, wN, wU, wD, [(o, .inl (cJ, 1, .inr (.inl (va_up g 0 (nI (sv.length - 1)).toInt64))))]]) rfl rfl ?_
    refine q_istore C dL_law_743 745 rfl [(5, .int (nI 0)), (4, .int (nI i)), (3, .ref o), (2, .ref y), (1, .ref x), (0, .ref b)] (by decide) rfl ?_
    refine q_aload_n C dL_law_745 746 3 rfl rfl ?_
    refine q_callV (k := 12) (ci := 6) (n := 0) (rest := []) (Rr := [wX, wO_740, wA_740, wB_740, wL_740, wH_740, vO, vA, vB, vL, wT, wK, wZ, wN, wU, wD, [(o, .inl (cJ, 1, .inr (.inl (va_up g 0 (nI (sv.length - 1)).toInt64))))]]) C rfl (k_isP_recv rP) rfl (c_X7_undo_b l hZ hI y mS mZ mV mN mU mD fd hh wP rP bx at0 ln sc wQ rQ sv wV rV q4 (by omega)) gL_law_X7_undo rfl rfl rfl (by decide +kernel) B.1 ⟨Nat.le_of_ble_eq_true rfl, Nat.le_of_ble_eq_true rfl⟩ rfl rfl (Nat.le_of_ble_eq_true rfl) dL_law_746 ⟨(by show ((80 + i) + 0) + 0 ≤ 601024; omega), (by show ((6951 + 2 * i) + 0) + 0 ≤ 7293034; omega)⟩ [12, 13, 15] [0, 1, 2, 3, 4, 5, 6, 7, 8, 9, 10, 11, 14, 16, 17, 18, 19] (by decide : ([12, 13, 15] ++ ([0, 1, 2, 3, 4, 5, 6, 7, 8, 9, 10, 11, 14, 16, 17, 18, 19] : List Nat)).Perm (List.range 20)) rfl rfl 749 rfl (fun v0 R0 t0 ht0 hp0 => ?_)
    obtain ⟨rfl, wP_746, hwP_746, wQ_746, hwQ_746, wV_746, hwV_746, rfl⟩ := hp0
    refine q_eqs (st' := [.int (nI (sv.length - 1))]) rfl ?_
    refine q_reord [3, 4, 5, 6, 7, 8, 9, 10, 11, 12, 13, 14, 0, 1, 15, 2, 16, 17, 18, 19] (by decide : ([3, 4, 5, 6, 7, 8, 9, 10, 11, 12, 13, 14, 0, 1, 15, 2, 16, 17, 18, 19] : List Nat).Perm (List.range 20)) (Rs' := [wX, wO_740, wA_740, wB_740, wL_740, wH_740, vO, vA, vB, vL, wT, wK, wP_746, wQ_746, wZ, wV_746, wN, wU, wD, [(o, .inl (cJ, 1, .inr (.inl (va_up g 0 (nI (sv.length - 1)).toInt64))))]]) rfl rfl ?_
    refine q_istore C dL_law_749 751 rfl [(6, .int (nI (sv.length - 1))), (5, .int (nI 0)), (4, .int (nI i)), (3, .ref o), (2, .ref y), (1, .ref x), (0, .ref b)] (by decide) rfl ?_
    refine q_aload_n C dL_law_751 752 4 rfl rfl ?_
    refine q_callV (k := 12) (ci := 6) (n := 0) (rest := []) (Rr := [wX, wO_740, wA_740, wB_740, wL_740, wH_740, vO, vA, vB, vL, wT, wK, wQ_746, wZ, wV_746, wN, wU, wD, [(o, .inl (cJ, 1, .inr (.inl (va_up g 0 (nI (sv.length - 1)).toInt64))))]]) C rfl (k_isP_recv hwP_746) rfl (c_X7_thrown l hZ hI y mS mZ mV mN mU mD (upd (upd fd 0 (nI 0)) 4 (nI (sv.length - 1))) hh wP_746 hwP_746) gL_law_X7_thrown rfl rfl rfl (by decide +kernel) B.1 ⟨Nat.le_of_ble_eq_true rfl, Nat.le_of_ble_eq_true rfl⟩ rfl rfl (Nat.le_of_ble_eq_true rfl) dL_law_752 ⟨(by show ((80 + i) + 0) + 0 ≤ 601024; omega), (by show ((6951 + 2 * i) + 0) + 0 ≤ 7293034; omega)⟩ [12] [0, 1, 2, 3, 4, 5, 6, 7, 8, 9, 10, 11, 13, 14, 15, 16, 17, 18, 19] (by decide : ([12] ++ ([0, 1, 2, 3, 4, 5, 6, 7, 8, 9, 10, 11, 13, 14, 15, 16, 17, 18, 19] : List Nat)).Perm (List.range 20)) rfl rfl 755 rfl (fun v0 R0 t0 ht0 hp0 => ?_)
    obtain ⟨rfl, rfl⟩ := hp0
    refine q_eqs (st' := [.int ((upd (upd fd 0 (nI 0)) 4 (nI (sv.length - 1))) 0)]) rfl ?_
    refine q_reord [1, 2, 3, 4, 5, 6, 7, 8, 9, 10, 11, 12, 0, 13, 14, 15, 16, 17, 18, 19] (by decide : ([1, 2, 3, 4, 5, 6, 7, 8, 9, 10, 11, 12, 0, 13, 14, 15, 16, 17, 18, 19] : List Nat).Perm (List.range 20)) (Rs' := [wX, wO_740, wA_740, wB_740, wL_740, wH_740, vO, vA, vB, vL, wT, wK, wP_746, wQ_746, wZ, wV_746, wN, wU, wD, [(o, .inl (cJ, 1, .inr (.inl (va_up g 0 (nI (sv.length - 1)).toInt64))))]]) rfl rfl ?_
    refine q_eqs (st' := [.int (nI 0)]) (by rw [pk_un (by decide), pk_us]) ?_
    refine q_iload C dL_law_755 757 1 rfl rfl ?_
    refine q_icmp_eq C dL_law_757 760 762 rfl (by decide) (nI_eq (by omega) (by omega)) (fun h757 => ?_) (fun h757 => False.elim (by first | omega | simp_all))
    refine q_iload C dL_law_762 764 1 rfl rfl ?_
    refine q_if_ne C dL_law_764 767 779 rfl (by decide) (q_eq0 (by omega)) (fun h764 => False.elim (by first | omega | simp_all)) (fun h764 => ?_)
    refine q_aload_n C dL_law_767 768 3 rfl rfl ?_
    refine q_iconst (v := nI 0) C dL_law_768 769 rfl (by decide) ?_
    refine q_lald (k := 19) (j := 0) (v := (nI (sv.length - 1)).toInt64) C dL_law_769 770 rfl rfl rfl hJ 0 rfl (by decide) (by decide) k_up_s ?_
    refine q_iload C dL_law_770 772 0 rfl rfl ?_
    refine q_i2l (v := ((nI (sv.length - 1)) : Int32).toInt64) C dL_law_772 773 rfl rfl ?_
    refine q_lcmp C dL_law_773 774 rfl ?_
    refine q_if_eq C dL_law_774 777 779 rfl (by decide) Iff.rfl (fun h774 => ?_) (fun h774 => False.elim (h774 (lg_self _)))
    refine q_goto C dL_law_779 1304 (by decide) ?_
    refine q_sub (L' := [(4, .int (nI i)), (3, .ref o), (2, .ref y), (1, .ref x), (0, .ref b)]) [2, 3, 4, 5, 6] rfl ?_
    refine q_widen (k := 80 + i + 1) (n := 6951 + 2 * i + 6) (by omega) (by omega) ?_
    exact kk _ ⟨k_nw sv, sv.dropLast, hsn, (sb, sa, sl, ss), (nb, na, nl, ns), tx, upd (upd fd 0 (nI 0)) 4 (nI (sv.length - 1)), va_up g 0 (nI (sv.length - 1)).toInt64, _, _, ⟨_, _, _, _, _, _, _, _, _, _, _, _, _, _, _, _, _, _, _, _, _, _, _, _, _, rX, ⟨hwO_740, hwA_740, hwB_740, hwL_740⟩, hwH_740, ⟨gO, gA, gB, gL⟩, rT, rK, rfl⟩, ⟨_, _, _, _, _, _, _, (zb, za, zl, zs), _, _, _, _, _, _, _, _, _, hwP_746, hwQ_746, rZ, hwV_746, rN, rU, rD, rfl⟩, (k_Iv_nw hIs (by omega)), (k_Iv_pop hIs), (by rw [pk_us, List.length_dropLast]), (by rw [pk_un (by decide), pk_un (by decide)]; exact q8), (k_Sn_eq hsn6 (by rw [pk_un (by decide), pk_un (by decide)])), (by rw [List.length_dropLast]; omega), rfl⟩
    

set_option maxHeartbeats 1000000 in
set_option maxRecDepth 100000 in
theorem law_c13 {p9 : Program} {l : Launch} {e9 : Env} {R : Room} {s9 : State} {m9 : MethodId} {args : Array Value} {below : List Frame} {meth : Method} {c9 : Code} {Q : State → Prop} {D : va_G} {tys : List (ClassId × FieldType)} {A : Nat → Prop} {Z : (Nat → Prop) → State → Heap → Prop} {b LL : Nat} {xs : Nat → Int32} {x y o i : Nat} {Rs : List va_W} (C : q_C p9 s9 m9 args c9 cL_law 9 wsL_law RL D tys Z A) (hZ : q_St Z) {cI cG cJ : ClassId} (hI : tys[0]? = some (cI, .int)) (hG : tys[1]? = some (cG, .object "SortCases$State")) (hJ : tys[2]? = some (cJ, .long)) (hN : q_Ns Z) {ad aw av : Nat → Nat} {tK : Nat} (hKs : q_Ks Z ad aw av tK) {tL tH : Nat} (hVs : q_Vs Z tL tH) (hXs : q_Xs Z) (hlT : l.stackTraces = false) (hXb : va_X b LL xs s9 s9.heap) (hbl : b < s9.heap.size) (hbA : ¬ A b) (hR : R = ({ frames := 12, cells := 601024, slots := 7293034, locals := 454 } : Room)) (hi : i + 3 ≤ LL) (hL : LL ≤ 1536) (hRs : law_I cG cI cJ x y o Rs) (kk : ∀ Rs', law_I cG cI cJ x y o Rs' → q_V p9 l e9 R s9 m9 args below meth c9 D A 9 Q (80 + i + 1) (6951 + 2 * i + 6) 1304 [(4, .int (nI i)), (3, .ref o), (2, .ref y), (1, .ref x), (0, .ref b)] [] Rs') : q_V p9 l e9 R s9 m9 args below meth c9 D A 9 Q (80 + i) (6951 + 2 * i) 782 [(4, .int (nI i)), (3, .ref o), (2, .ref y), (1, .ref x), (0, .ref b)] [] Rs := by
  have hcI := hI
  have hcG := hG
  have B : R = ({ frames := 12, cells := 601024, slots := 7293034, locals := 454 } : Room) ∧ True := ⟨hR, trivial⟩
  have hts := C.2.2.2.2.1
  obtain ⟨⟨bx, at0, ln, sc⟩, sv, hsn, ⟨sb, sa, sl, ss⟩, ⟨nb, na, nl, ns⟩, tx, fd, g, R1, R2, ⟨aO, aY, aN, aT, aK, aB, aL, aS, naB, naL, naS, kb, ka, wX, wO, wA, wB, wL, wH, vO, vA, vB, vL, wT, wK, rX, ⟨rO, rA, rB, rL⟩, rH, ⟨gO, gA, gB, gL⟩, rT, rK, rfl⟩, ⟨mS, mZ, mV, mN, mU, mD, hh, ⟨zb, za, zl, zs⟩, dx, ps, wP, wQ, wZ, wV, wN, wU, wD, rP, rQ, rZ, rV, rN, rU, rD, rfl⟩, hIv, hIs, q4, q8, hsn6, hl6, rfl⟩ := hRs
  have rO : k_isO cI aO aB aL aS sc wO := rO
  have rA : k_isA cI aS sc wA := rA
  have rB : k_isB cI aB bx at0 wB := rB
  have rL : k_isL cI aL ln wL := rL
  have gO : k_isO cI aN naB naL naS ss vO := gO
  have gA : k_isA cI naS ss vA := gA
  have gB : k_isB cI naB sb sa vB := gB
  have gL : k_isL cI naL sl vL := gL
  have rQ : k_isQ cI mS bx at0 ln sc wQ := rQ
  have rZ : k_isQ cI mZ zb za zl zs wZ := rZ
  have rN : k_isQ cI mN nb na nl ns wN := rN
  have hll : ln.length ≤ 40 := rL.1.1
  have htl : tx.length ≤ 60 := rT.1.1
  obtain ⟨v, hxv⟩ : ∃ v, xs (i + 1) = v := ⟨_, rfl⟩
  obtain ⟨v2, hxv2⟩ : ∃ v2, xs (i + 2) = v2 := ⟨_, rfl⟩
  refine q_eqR (Rs' := [wX, wO, wA, wB, wL, wH, vO, vA, vB, vL, wT, wK, wP, wQ, wZ, wV, wN, wU, wD, [(o, .inl (cJ, 1, .inr (.inl g)))]]) rfl ?_
  refine q_aload_n C dL_law_782 783 3 rfl rfl ?_
  refine q_callV (k := 0) (ci := 5) (n := 0) (rest := []) (Rr := [wH, wT, wK, wP, wQ, wZ, wV, wN, wU, wD, [(o, .inl (cJ, 1, .inr (.inl g)))]]) C rfl (k_isX_recv rX) rfl (c_X6_keep l hZ hI hN x aO aY aN hsn aT aK wX rX aB aL aS sc wO rO wA rA bx at0 wB rB ln wL rL naB naL naS ss vO gO vA gA sb sa vB gB sl vL gL) gL_law_X6_keep rfl rfl rfl (by decide +kernel) B.1 ⟨Nat.le_of_ble_eq_true rfl, Nat.le_of_ble_eq_true rfl⟩ rfl rfl (Nat.le_of_ble_eq_true rfl) dL_law_783 ⟨(by show (80 + i) + 0 ≤ 601024; omega), (by show (6951 + 2 * i) + 0 ≤ 7293034; omega)⟩ [0, 1, 2, 3, 4, 6, 7, 8, 9] [5, 10, 11, 12, 13, 14, 15, 16, 17, 18, 19] (by decide : ([0, 1, 2, 3, 4, 6, 7, 8, 9] ++ ([5, 10, 11, 12, 13, 14, 15, 16, 17, 18, 19] : List Nat)).Perm (List.range 20)) rfl rfl 786 rfl (fun v0 R0 t0 ht0 hp0 => ?_)
  obtain ⟨rfl, wX_783, hwX_783, wnO_783, hwnO_783, wnA_783, hwnA_783, wnB_783, hwnB_783, wnL_783, hwnL_783, rfl⟩ := hp0
  refine q_eqs (st' := [.int (nI ln.length)]) rfl ?_
  refine q_reord [0, 1, 2, 3, 4, 9, 5, 6, 7, 8, 10, 11, 12, 13, 14, 15, 16, 17, 18, 19] (by decide : ([0, 1, 2, 3, 4, 9, 5, 6, 7, 8, 10, 11, 12, 13, 14, 15, 16, 17, 18, 19] : List Nat).Perm (List.range 20)) (Rs' := [wX_783, wO, wA, wB, wL, wH, wnO_783, wnA_783, wnB_783, wnL_783, wT, wK, wP, wQ, wZ, wV, wN, wU, wD, [(o, .inl (cJ, 1, .inr (.inl g)))]]) rfl rfl ?_
  refine q_aload_n C dL_law_786 787 2 rfl rfl ?_
  refine q_callV (k := 12) (ci := 6) (n := 0) (rest := [.int (nI ln.length)]) (Rr := [wX_783, wO, wA, wB, wL, wH, wnO_783, wnA_783, wnB_783, wnL_783, wT, wK, wZ, wV, wU, wD, [(o, .inl (cJ, 1, .inr (.inl g)))]]) C rfl (k_isP_recv rP) rfl (c_X7_keep l hZ hI y mS mZ mV mN mU mD fd hh wP rP bx at0 ln sc wQ rQ nb na nl ns wN rN) gL_law_X7_keep rfl rfl rfl (by decide +kernel) B.1 ⟨Nat.le_of_ble_eq_true rfl, Nat.le_of_ble_eq_true rfl⟩ rfl rfl (Nat.le_of_ble_eq_true rfl) dL_law_787 ⟨(by show (80 + i) + 0 ≤ 601024; omega), (by show (6951 + 2 * i) + 0 ≤ 7293034; omega)⟩ [12, 13, 16] [0, 1, 2, 3, 4, 5, 6, 7, 8, 9, 10, 11, 14, 15, 17, 18, 19] (by decide : ([12, 13, 16] ++ ([0, 1, 2, 3, 4, 5, 6, 7, 8, 9, 10, 11, 14, 15, 17, 18, 19] : List Nat)).Perm (List.range 20)) rfl rfl 790 rfl (fun v0 R0 t0 ht0 hp0 => ?_)
  obtain ⟨rfl, wP_787, hwP_787, wn_787, hwn_787, rfl⟩ := hp0
  refine q_eqs (st' := [.int (nI ln.length), .int (nI ln.length)]) rfl ?_
  refine q_reord [3, 4, 5, 6, 7, 8, 9, 10, 11, 12, 13, 14, 0, 1, 15, 16, 2, 17, 18, 19] (by decide : ([3, 4, 5, 6, 7, 8, 9, 10, 11, 12, 13, 14, 0, 1, 15, 16, 2, 17, 18, 19] : List Nat).Perm (List.range 20)) (Rs' := [wX_783, wO, wA, wB, wL, wH, wnO_783, wnA_783, wnB_783, wnL_783, wT, wK, wP_787, wQ, wZ, wV, wn_787, wU, wD, [(o, .inl (cJ, 1, .inr (.inl g)))]]) rfl rfl ?_
  refine q_icmp_eq C dL_law_790 793 1304 rfl (by decide) (nI_eq (by omega) (by omega)) (fun h790 => ?_) (fun h790 => False.elim (by first | omega | simp_all))
  refine q_sub (L' := [(4, .int (nI i)), (3, .ref o), (2, .ref y), (1, .ref x), (0, .ref b)]) [0, 1, 2, 3, 4] rfl ?_
  refine q_widen (k := 80 + i + 1) (n := 6951 + 2 * i + 6) (by omega) (by omega) ?_
  exact kk _ ⟨(bx, at0, ln, sc), sv, (nI 1), (bx, at0, ln, sc), (bx, at0, ln, sc), tx, upd (upd fd 0 (nI 0)) 6 (nI 1), g, _, _, ⟨_, _, _, _, _, _, _, _, _, _, _, _, _, _, _, _, _, _, _, _, _, _, _, _, _, hwX_783, ⟨rO, rA, rB, rL⟩, rH, ⟨hwnO_783, hwnA_783, hwnB_783, hwnL_783⟩, rT, rK, rfl⟩, ⟨_, _, _, _, _, _, _, (zb, za, zl, zs), _, _, _, _, _, _, _, _, _, hwP_787, rQ, rZ, rV, hwn_787, rU, rD, rfl⟩, hIv, hIs, (by rw [pk_un (by decide), pk_un (by decide)]; exact q4), (by rw [pk_un (by decide), pk_un (by decide)]; exact q8), (Or.inr ⟨rfl, (by rw [pk_us]), rfl, hIv⟩), hl6, rfl⟩
  

set_option maxHeartbeats 1000000 in
set_option maxRecDepth 100000 in
theorem law_c14 {p9 : Program} {l : Launch} {e9 : Env} {R : Room} {s9 : State} {m9 : MethodId} {args : Array Value} {below : List Frame} {meth : Method} {c9 : Code} {Q : State → Prop} {D : va_G} {tys : List (ClassId × FieldType)} {A : Nat → Prop} {Z : (Nat → Prop) → State → Heap → Prop} {b LL : Nat} {xs : Nat → Int32} {x y o i : Nat} {Rs : List va_W} (C : q_C p9 s9 m9 args c9 cL_law 9 wsL_law RL D tys Z A) (hZ : q_St Z) {cI cG cJ : ClassId} (hI : tys[0]? = some (cI, .int)) (hG : tys[1]? = some (cG, .object "SortCases$State")) (hJ : tys[2]? = some (cJ, .long)) (hN : q_Ns Z) {ad aw av : Nat → Nat} {tK : Nat} (hKs : q_Ks Z ad aw av tK) {tL tH : Nat} (hVs : q_Vs Z tL tH) (hXs : q_Xs Z) (hlT : l.stackTraces = false) (hXb : va_X b LL xs s9 s9.heap) (hbl : b < s9.heap.size) (hbA : ¬ A b) (hR : R = ({ frames := 12, cells := 601024, slots := 7293034, locals := 454 } : Room)) (hi : i + 3 ≤ LL) (hL : LL ≤ 1536) (hRs : law_I cG cI cJ x y o Rs) (kk : ∀ Rs', law_I cG cI cJ x y o Rs' → q_V p9 l e9 R s9 m9 args below meth c9 D A 9 Q (80 + i + 1) (6951 + 2 * i + 6) 1304 [(4, .int (nI i)), (3, .ref o), (2, .ref y), (1, .ref x), (0, .ref b)] [] Rs') : q_V p9 l e9 R s9 m9 args below meth c9 D A 9 Q (80 + i) (6951 + 2 * i) 795 [(4, .int (nI i)), (3, .ref o), (2, .ref y), (1, .ref x), (0, .ref b)] [] Rs := by
  have hcI := hI
  have hcG := hG
  have B : R = ({ frames := 12, cells := 601024, slots := 7293034, locals := 454 } : Room) ∧ True := ⟨hR, trivial⟩
  have hts := C.2.2.2.2.1
  obtain ⟨⟨bx, at0, ln, sc⟩, sv, hsn, ⟨sb, sa, sl, ss⟩, ⟨nb, na, nl, ns⟩, tx, fd, g, R1, R2, ⟨aO, aY, aN, aT, aK, aB, aL, aS, naB, naL, naS, kb, ka, wX, wO, wA, wB, wL, wH, vO, vA, vB, vL, wT, wK, rX, ⟨rO, rA, rB, rL⟩, rH, ⟨gO, gA, gB, gL⟩, rT, rK, rfl⟩, ⟨mS, mZ, mV, mN, mU, mD, hh, ⟨zb, za, zl, zs⟩, dx, ps, wP, wQ, wZ, wV, wN, wU, wD, rP, rQ, rZ, rV, rN, rU, rD, rfl⟩, hIv, hIs, q4, q8, hsn6, hl6, rfl⟩ := hRs
  have rO : k_isO cI aO aB aL aS sc wO := rO
  have rA : k_isA cI aS sc wA := rA
  have rB : k_isB cI aB bx at0 wB := rB
  have rL : k_isL cI aL ln wL := rL
  have gO : k_isO cI aN naB naL naS ss vO := gO
  have gA : k_isA cI naS ss vA := gA
  have gB : k_isB cI naB sb sa vB := gB
  have gL : k_isL cI naL sl vL := gL
  have rQ : k_isQ cI mS bx at0 ln sc wQ := rQ
  have rZ : k_isQ cI mZ zb za zl zs wZ := rZ
  have rN : k_isQ cI mN nb na nl ns wN := rN
  have hll : ln.length ≤ 40 := rL.1.1
  have htl : tx.length ≤ 60 := rT.1.1
  obtain ⟨v, hxv⟩ : ∃ v, xs (i + 1) = v := ⟨_, rfl⟩
  obtain ⟨v2, hxv2⟩ : ∃ v2, xs (i + 2) = v2 := ⟨_, rfl⟩
  refine q_eqR (Rs' := [wX, wO, wA, wB, wL, wH, vO, vA, vB, vL, wT, wK, wP, wQ, wZ, wV, wN, wU, wD, [(o, .inl (cJ, 1, .inr (.inl g)))]]) rfl ?_
  rcases hsn6 with ⟨e1, e6⟩ | ⟨e1, e6, eN, hIn⟩
  · refine q_aload_n C dL_law_795 796 3 rfl rfl ?_
    refine q_aload_n C dL_law_796 797 1 rfl rfl ?_
    refine q_reord [0, 19, 1, 2, 3, 4, 5, 6, 7, 8, 9, 10, 11, 12, 13, 14, 15, 16, 17, 18] (by decide : ([0, 19, 1, 2, 3, 4, 5, 6, 7, 8, 9, 10, 11, 12, 13, 14, 15, 16, 17, 18] : List Nat).Perm (List.range 20)) (Rs' := [wX, [(o, .inl (cJ, 1, .inr (.inl g)))], wO, wA, wB, wL, wH, vO, vA, vB, vL, wT, wK, wP, wQ, wZ, wV, wN, wU, wD]) rfl rfl ?_
    refine q_resp (Rs' := [[wX].flatten, [(o, .inl (cJ, 1, .inr (.inl g)))], wO, wA, wB, wL, wH, vO, vA, vB, vL, wT, wK, wP, wQ, wZ, wV, wN, wU, wD]) (by simp) ?_
    refine q_callSW (n := 2) (As := [.ref x, .ref o]) (rest := []) (Rr := [wO, wA, wB, wL, wH, vO, vA, vB, vL, wT, wK, wP, wQ, wZ, wV, wN, wU, wD]) C (c_L_restore_x1 l hZ hJ hXs x o  (q_hd (k_isX_recv rX)) (q_Xflat (List.append_nil _).symm (c_X6_restore_a l hZ hI hN hG hXs hlT x aO aY aN hsn aT aK wX rX e1)) (Nat.le_of_ble_eq_true rfl) (Nat.le_of_ble_eq_true rfl) rfl rfl g) gL_law_L_restore rfl rfl rfl (by decide +kernel) B.1 ⟨Nat.le_of_ble_eq_true rfl, Nat.le_of_ble_eq_true rfl⟩ rfl rfl (Nat.le_of_ble_eq_true rfl) dL_law_797 ⟨(by show (80 + i) + 1 ≤ 601024; omega), (by show (6951 + 2 * i) + 6 ≤ 7293034; omega)⟩ [0, 1] [2, 3, 4, 5, 6, 7, 8, 9, 10, 11, 12, 13, 14, 15, 16, 17, 18, 19] (by decide : ([0, 1] ++ ([2, 3, 4, 5, 6, 7, 8, 9, 10, 11, 12, 13, 14, 15, 16, 17, 18, 19] : List Nat)).Perm (List.range 20)) rfl rfl 800 rfl (fun v0 R0 t0 ht0 hp0 => ?_)
    obtain ⟨rfl, rfl⟩ := hp0
    refine q_eqs (st' := [.int (nI 1)]) rfl ?_
    refine q_resp (Rs' := [wX, [(o, .inl (cJ, 1, .inr (.inl g)))], wO, wA, wB, wL, wH, vO, vA, vB, vL, wT, wK, wP, wQ, wZ, wV, wN, wU, wD]) (by simp) ?_
    refine q_reord [0, 2, 3, 4, 5, 6, 7, 8, 9, 10, 11, 12, 13, 14, 15, 16, 17, 18, 19, 1] (by decide : ([0, 2, 3, 4, 5, 6, 7, 8, 9, 10, 11, 12, 13, 14, 15, 16, 17, 18, 19, 1] : List Nat).Perm (List.range 20)) (Rs' := [wX, wO, wA, wB, wL, wH, vO, vA, vB, vL, wT, wK, wP, wQ, wZ, wV, wN, wU, wD, [(o, .inl (cJ, 1, .inr (.inl g)))]]) rfl rfl ?_
    refine q_istore C dL_law_800 802 rfl [(5, .int (nI 1)), (4, .int (nI i)), (3, .ref o), (2, .ref y), (1, .ref x), (0, .ref b)] (by decide) rfl ?_
    refine q_aload_n C dL_law_802 803 3 rfl rfl ?_
    refine q_callV (k := 12) (ci := 6) (n := 0) (rest := []) (Rr := [wX, wO, wA, wB, wL, wH, vO, vA, vB, vL, wT, wK, wQ, wZ, wV, wN, wU, wD, [(o, .inl (cJ, 1, .inr (.inl g)))]]) C rfl (k_isP_recv rP) rfl (c_X7_restore_a l hZ hI y mS mZ mV mN mU mD fd hh wP rP e6) gL_law_X7_restore rfl rfl rfl (by decide +kernel) B.1 ⟨Nat.le_of_ble_eq_true rfl, Nat.le_of_ble_eq_true rfl⟩ rfl rfl (Nat.le_of_ble_eq_true rfl) dL_law_803 ⟨(by show ((80 + i) + 1) + 0 ≤ 601024; omega), (by show ((6951 + 2 * i) + 6) + 0 ≤ 7293034; omega)⟩ [12] [0, 1, 2, 3, 4, 5, 6, 7, 8, 9, 10, 11, 13, 14, 15, 16, 17, 18, 19] (by decide : ([12] ++ ([0, 1, 2, 3, 4, 5, 6, 7, 8, 9, 10, 11, 13, 14, 15, 16, 17, 18, 19] : List Nat)).Perm (List.range 20)) rfl rfl 806 rfl (fun v0 R0 t0 ht0 hp0 => ?_)
    obtain ⟨rfl, w_803, hw_803, rfl⟩ := hp0
    refine q_eqs (st' := [.int (nI 0)]) rfl ?_
    refine q_reord [1, 2, 3, 4, 5, 6, 7, 8, 9, 10, 11, 12, 0, 13, 14, 15, 16, 17, 18, 19] (by decide : ([1, 2, 3, 4, 5, 6, 7, 8, 9, 10, 11, 12, 0, 13, 14, 15, 16, 17, 18, 19] : List Nat).Perm (List.range 20)) (Rs' := [wX, wO, wA, wB, wL, wH, vO, vA, vB, vL, wT, wK, w_803, wQ, wZ, wV, wN, wU, wD, [(o, .inl (cJ, 1, .inr (.inl g)))]]) rfl rfl ?_
    refine q_istore C dL_law_806 808 rfl [(6, .int (nI 0)), (5, .int (nI 1)), (4, .int (nI i)), (3, .ref o), (2, .ref y), (1, .ref x), (0, .ref b)] (by decide) rfl ?_
    refine q_aload_n C dL_law_808 809 4 rfl rfl ?_
    refine q_callV (k := 12) (ci := 6) (n := 0) (rest := []) (Rr := [wX, wO, wA, wB, wL, wH, vO, vA, vB, vL, wT, wK, wQ, wZ, wV, wN, wU, wD, [(o, .inl (cJ, 1, .inr (.inl g)))]]) C rfl (k_isP_recv hw_803) rfl (c_X7_thrown l hZ hI y mS mZ mV mN mU mD (upd (upd fd 0 (nI 0)) 0 (nI 1)) hh w_803 hw_803) gL_law_X7_thrown rfl rfl rfl (by decide +kernel) B.1 ⟨Nat.le_of_ble_eq_true rfl, Nat.le_of_ble_eq_true rfl⟩ rfl rfl (Nat.le_of_ble_eq_true rfl) dL_law_809 ⟨(by show ((80 + i) + 1) + 0 ≤ 601024; omega), (by show ((6951 + 2 * i) + 6) + 0 ≤ 7293034; omega)⟩ [12] [0, 1, 2, 3, 4, 5, 6, 7, 8, 9, 10, 11, 13, 14, 15, 16, 17, 18, 19] (by decide : ([12] ++ ([0, 1, 2, 3, 4, 5, 6, 7, 8, 9, 10, 11, 13, 14, 15, 16, 17, 18, 19] : List Nat)).Perm (List.range 20)) rfl rfl 812 rfl (fun v0 R0 t0 ht0 hp0 => ?_)
    obtain ⟨rfl, rfl⟩ := hp0
    refine q_eqs (st' := [.int ((upd (upd fd 0 (nI 0)) 0 (nI 1)) 0)]) rfl ?_
    refine q_reord [1, 2, 3, 4, 5, 6, 7, 8, 9, 10, 11, 12, 0, 13, 14, 15, 16, 17, 18, 19] (by decide : ([1, 2, 3, 4, 5, 6, 7, 8, 9, 10, 11, 12, 0, 13, 14, 15, 16, 17, 18, 19] : List Nat).Perm (List.range 20)) (Rs' := [wX, wO, wA, wB, wL, wH, vO, vA, vB, vL, wT, wK, w_803, wQ, wZ, wV, wN, wU, wD, [(o, .inl (cJ, 1, .inr (.inl g)))]]) rfl rfl ?_
    refine q_eqs (st' := [.int (nI 1)]) (by rw [pk_us]) ?_
    refine q_iload C dL_law_812 814 1 rfl rfl ?_
    refine q_icmp_eq C dL_law_814 817 819 rfl (by decide) (nI_eq (by omega) (by omega)) (fun h814 => ?_) (fun h814 => False.elim (by first | omega | simp_all))
    refine q_iload C dL_law_819 821 1 rfl rfl ?_
    refine q_if_ne C dL_law_821 824 836 rfl (by decide) (q_eq0 (by omega)) (fun h821 => ?_) (fun h821 => False.elim (by first | omega | simp_all))
    refine q_goto C dL_law_836 1304 (by decide) ?_
    refine q_sub (L' := [(4, .int (nI i)), (3, .ref o), (2, .ref y), (1, .ref x), (0, .ref b)]) [2, 3, 4, 5, 6] rfl ?_
    refine q_widen (k := 80 + i + 1) (n := 6951 + 2 * i + 6) (by omega) (by omega) ?_
    exact kk _ ⟨(bx, at0, ln, sc), sv, hsn, (sb, sa, sl, ss), (nb, na, nl, ns), tx, upd (upd fd 0 (nI 0)) 0 (nI 1), g, _, _, ⟨_, _, _, _, _, _, _, _, _, _, _, _, _, _, _, _, _, _, _, _, _, _, _, _, _, rX, ⟨rO, rA, rB, rL⟩, rH, ⟨gO, gA, gB, gL⟩, rT, rK, rfl⟩, ⟨_, _, _, _, _, _, _, (zb, za, zl, zs), _, _, _, _, _, _, _, _, _, hw_803, rQ, rZ, rV, rN, rU, rD, rfl⟩, hIv, hIs, (by rw [pk_un (by decide), pk_un (by decide)]; exact q4), (by rw [pk_un (by decide), pk_un (by decide)]; exact q8), (Or.inl ⟨e1, (by rw [pk_un (by decide), pk_un (by decide)]; exact e6)⟩), hl6, rfl⟩
    
  · have e4 : ss = ns := congrArg (fun z : k_S => z.2.2.2) eN
    have e3 : sl = nl := congrArg (fun z : k_S => z.2.2.1) eN
    have e2 : sa = na := congrArg (fun z : k_S => z.2.1) eN
    have e0 : sb = nb := congrArg (fun z : k_S => z.1) eN
    rw [e4] at gO gA
    rw [e0, e2] at gB
    rw [e3] at gL
    refine q_aload_n C dL_law_795 796 3 rfl rfl ?_
    refine q_aload_n C dL_law_796 797 1 rfl rfl ?_
    refine q_reord [0, 1, 2, 3, 4, 5, 6, 7, 8, 9, 19, 10, 11, 12, 13, 14, 15, 16, 17, 18] (by decide : ([0, 1, 2, 3, 4, 5, 6, 7, 8, 9, 19, 10, 11, 12, 13, 14, 15, 16, 17, 18] : List Nat).Perm (List.range 20)) (Rs' := [wX, wO, wA, wB, wL, wH, vO, vA, vB, vL, [(o, .inl (cJ, 1, .inr (.inl g)))], wT, wK, wP, wQ, wZ, wV, wN, wU, wD]) rfl rfl ?_
    refine q_resp (Rs' := [[wX, wO, wA, wB, wL, wH, vO, vA, vB, vL].flatten, [(o, .inl (cJ, 1, .inr (.inl g)))], wT, wK, wP, wQ, wZ, wV, wN, wU, wD]) (by simp) ?_
    refine q_callSW (n := 2) (As := [.ref x, .ref o]) (rest := []) (Rr := [wT, wK, wP, wQ, wZ, wV, wN, wU, wD]) C (c_L_restore_ok l hZ hJ x o  (r := nI nl.length) (q_hd (k_isX_recv rX)) (q_Cflat (List.append_nil _).symm (c_X6_restore_b l hZ hI hN hG x aO aY aN hsn aT aK wX rX aB aL aS sc wO rO wA rA bx at0 wB rB ln wL rL sv wH rH naB naL naS ns vO gO vA gA nb na vB gB nl vL gL e1)) (Nat.le_of_ble_eq_true rfl) (Nat.le_of_ble_eq_true rfl) rfl rfl (fun _ _ _ h => h.1) g) gL_law_L_restore rfl rfl rfl (by decide +kernel) B.1 ⟨Nat.le_of_ble_eq_true rfl, Nat.le_of_ble_eq_true rfl⟩ rfl rfl (Nat.le_of_ble_eq_true rfl) dL_law_797 ⟨(by show (80 + i) + 0 ≤ 601024; omega), (by show (6951 + 2 * i) + 0 ≤ 7293034; omega)⟩ [0, 1] [2, 3, 4, 5, 6, 7, 8, 9, 10] (by decide : ([0, 1] ++ ([2, 3, 4, 5, 6, 7, 8, 9, 10] : List Nat)).Perm (List.range 11)) rfl rfl 800 rfl (fun v0 R0 t0 ht0 hp0 => ?_)
    obtain ⟨rfl, R1, t1, ⟨-, wO_797, hwO_797, wA_797, hwA_797, wB_797, hwB_797, wL_797, hwL_797, wH_797, hwH_797, rfl⟩, rfl⟩ := hp0
    refine q_eqs (st' := [.int (nI 0)]) rfl ?_
    refine q_resp (Rs' := [wX, wO_797, wA_797, wB_797, wL_797, wH_797, vO, vA, vB, vL, [(o, .inl (cJ, 1, .inr (.inl (va_up g 0 (nI nl.length).toInt64))))], wT, wK, wP, wQ, wZ, wV, wN, wU, wD]) (by simp) ?_
    refine q_reord [0, 1, 2, 3, 4, 5, 6, 7, 8, 9, 11, 12, 13, 14, 15, 16, 17, 18, 19, 10] (by decide : ([0, 1, 2, 3, 4, 5, 6, 7, 8, 9, 11, 12, 13, 14, 15, 16, 17, 18, 19, 10] : List Nat).Perm (List.range 20)) (Rs' := [wX, wO_797, wA_797, wB_797, wL_797, wH_797, vO, vA, vB, vL, wT, wK, wP, wQ, wZ, wV, wN, wU, wD, [(o, .inl (cJ, 1, .inr (.inl (va_up g 0 (nI nl.length).toInt64))))]]) rfl rfl ?_
    refine q_istore C dL_law_800 802 rfl [(5, .int (nI 0)), (4, .int (nI i)), (3, .ref o), (2, .ref y), (1, .ref x), (0, .ref b)] (by decide) rfl ?_
    refine q_aload_n C dL_law_802 803 3 rfl rfl ?_
    refine q_callV (k := 12) (ci := 6) (n := 0) (rest := []) (Rr := [wX, wO_797, wA_797, wB_797, wL_797, wH_797, vO, vA, vB, vL, wT, wK, wZ, wU, wD, [(o, .inl (cJ, 1, .inr (.inl (va_up g 0 (nI nl.length).toInt64))))]]) C rfl (k_isP_recv rP) rfl (c_X7_restore_b l hZ hI y mS mZ mV mN mU mD fd hh wP rP bx at0 ln sc wQ rQ sv wV rV nb na nl ns wN rN q4 e6) gL_law_X7_restore rfl rfl rfl (by decide +kernel) B.1 ⟨Nat.le_of_ble_eq_true rfl, Nat.le_of_ble_eq_true rfl⟩ rfl rfl (Nat.le_of_ble_eq_true rfl) dL_law_803 ⟨(by show ((80 + i) + 0) + 0 ≤ 601024; omega), (by show ((6951 + 2 * i) + 0) + 0 ≤ 7293034; omega)⟩ [12, 13, 15, 16] [0, 1, 2, 3, 4, 5, 6, 7, 8, 9, 10, 11, 14, 17, 18, 19] (by decide : ([12, 13, 15, 16] ++ ([0, 1, 2, 3, 4, 5, 6, 7, 8, 9, 10, 11, 14, 17, 18, 19] : List Nat)).Perm (List.range 20)) rfl rfl 806 rfl (fun v0 R0 t0 ht0 hp0 => ?_)
    obtain ⟨rfl, wP_803, hwP_803, wQ_803, hwQ_803, wV_803, hwV_803, rfl⟩ := hp0
    refine q_eqs (st' := [.int (nI nl.length)]) rfl ?_
    refine q_reord [4, 5, 6, 7, 8, 9, 10, 11, 12, 13, 14, 15, 0, 1, 16, 2, 3, 17, 18, 19] (by decide : ([4, 5, 6, 7, 8, 9, 10, 11, 12, 13, 14, 15, 0, 1, 16, 2, 3, 17, 18, 19] : List Nat).Perm (List.range 20)) (Rs' := [wX, wO_797, wA_797, wB_797, wL_797, wH_797, vO, vA, vB, vL, wT, wK, wP_803, wQ_803, wZ, wV_803, wN, wU, wD, [(o, .inl (cJ, 1, .inr (.inl (va_up g 0 (nI nl.length).toInt64))))]]) rfl rfl ?_
    refine q_istore C dL_law_806 808 rfl [(6, .int (nI nl.length)), (5, .int (nI 0)), (4, .int (nI i)), (3, .ref o), (2, .ref y), (1, .ref x), (0, .ref b)] (by decide) rfl ?_
    refine q_aload_n C dL_law_808 809 4 rfl rfl ?_
    refine q_callV (k := 12) (ci := 6) (n := 0) (rest := []) (Rr := [wX, wO_797, wA_797, wB_797, wL_797, wH_797, vO, vA, vB, vL, wT, wK, wQ_803, wZ, wV_803, wN, wU, wD, [(o, .inl (cJ, 1, .inr (.inl (va_up g 0 (nI nl.length).toInt64))))]]) C rfl (k_isP_recv hwP_803) rfl (c_X7_thrown l hZ hI y mS mZ mV mN mU mD (upd (upd fd 0 (nI 0)) 4 (nI (k_sav sv (bx, at0, ln, sc)).length)) hh wP_803 hwP_803) gL_law_X7_thrown rfl rfl rfl (by decide +kernel) B.1 ⟨Nat.le_of_ble_eq_true rfl, Nat.le_of_ble_eq_true rfl⟩ rfl rfl (Nat.le_of_ble_eq_true rfl) dL_law_809 ⟨(by show ((80 + i) + 0) + 0 ≤ 601024; omega), (by show ((6951 + 2 * i) + 0) + 0 ≤ 7293034; omega)⟩ [12] [0, 1, 2, 3, 4, 5, 6, 7, 8, 9, 10, 11, 13, 14, 15, 16, 17, 18, 19] (by decide : ([12] ++ ([0, 1, 2, 3, 4, 5, 6, 7, 8, 9, 10, 11, 13, 14, 15, 16, 17, 18, 19] : List Nat)).Perm (List.range 20)) rfl rfl 812 rfl (fun v0 R0 t0 ht0 hp0 => ?_)
    obtain ⟨rfl, rfl⟩ := hp0
    refine q_eqs (st' := [.int ((upd (upd fd 0 (nI 0)) 4 (nI (k_sav sv (bx, at0, ln, sc)).length)) 0)]) rfl ?_
    refine q_reord [1, 2, 3, 4, 5, 6, 7, 8, 9, 10, 11, 12, 0, 13, 14, 15, 16, 17, 18, 19] (by decide : ([1, 2, 3, 4, 5, 6, 7, 8, 9, 10, 11, 12, 0, 13, 14, 15, 16, 17, 18, 19] : List Nat).Perm (List.range 20)) (Rs' := [wX, wO_797, wA_797, wB_797, wL_797, wH_797, vO, vA, vB, vL, wT, wK, wP_803, wQ_803, wZ, wV_803, wN, wU, wD, [(o, .inl (cJ, 1, .inr (.inl (va_up g 0 (nI nl.length).toInt64))))]]) rfl rfl ?_
    refine q_eqs (st' := [.int (nI 0)]) (by rw [pk_un (by decide), pk_us]) ?_
    refine q_iload C dL_law_812 814 1 rfl rfl ?_
    refine q_icmp_eq C dL_law_814 817 819 rfl (by decide) (nI_eq (by omega) (by omega)) (fun h814 => ?_) (fun h814 => False.elim (by first | omega | simp_all))
    refine q_iload C dL_law_819 821 1 rfl rfl ?_
    refine q_if_ne C dL_law_821 824 836 rfl (by decide) (q_eq0 (by omega)) (fun h821 => False.elim (by first | omega | simp_all)) (fun h821 => ?_)
    refine q_aload_n C dL_law_824 825 3 rfl rfl ?_
    refine q_iconst (v := nI 0) C dL_law_825 826 rfl (by decide) ?_
    refine q_lald (k := 19) (j := 0) (v := (nI nl.length).toInt64) C dL_law_826 827 rfl rfl rfl hJ 0 rfl (by decide) (by decide) k_up_s ?_
    refine q_iload C dL_law_827 829 0 rfl rfl ?_
    refine q_i2l (v := ((nI nl.length) : Int32).toInt64) C dL_law_829 830 rfl rfl ?_
    refine q_lcmp C dL_law_830 831 rfl ?_
    refine q_if_eq C dL_law_831 834 836 rfl (by decide) Iff.rfl (fun h831 => ?_) (fun h831 => False.elim (h831 (lg_self _)))
    refine q_goto C dL_law_836 1304 (by decide) ?_
    refine q_sub (L' := [(4, .int (nI i)), (3, .ref o), (2, .ref y), (1, .ref x), (0, .ref b)]) [2, 3, 4, 5, 6] rfl ?_
    refine q_widen (k := 80 + i + 1) (n := 6951 + 2 * i + 6) (by omega) (by omega) ?_
    exact kk _ ⟨(nb, na, nl, ns), (k_sav sv (bx, at0, ln, sc)), hsn, (nb, na, nl, ns), (nb, na, nl, ns), tx, upd (upd fd 0 (nI 0)) 4 (nI (k_sav sv (bx, at0, ln, sc)).length), va_up g 0 (nI nl.length).toInt64, _, _, ⟨_, _, _, _, _, _, _, _, _, _, _, _, _, _, _, _, _, _, _, _, _, _, _, _, _, rX, ⟨hwO_797, hwA_797, hwB_797, hwL_797⟩, hwH_797, ⟨gO, gA, gB, gL⟩, rT, rK, rfl⟩, ⟨_, _, _, _, _, _, _, (zb, za, zl, zs), _, _, _, _, _, _, _, _, _, hwP_803, hwQ_803, rZ, hwV_803, rN, rU, rD, rfl⟩, hIn, (k_Iv_sav hIs hIv), (by rw [pk_us]), (by rw [pk_un (by decide), pk_un (by decide)]; exact q8), (Or.inr ⟨e1, (by rw [pk_un (by decide), pk_un (by decide)]; exact e6), rfl, hIn⟩), (k_sav_6' hl6), rfl⟩
    

set_option maxHeartbeats 1000000 in
set_option maxRecDepth 100000 in
theorem law_c15 {p9 : Program} {l : Launch} {e9 : Env} {R : Room} {s9 : State} {m9 : MethodId} {args : Array Value} {below : List Frame} {meth : Method} {c9 : Code} {Q : State → Prop} {D : va_G} {tys : List (ClassId × FieldType)} {A : Nat → Prop} {Z : (Nat → Prop) → State → Heap → Prop} {b LL : Nat} {xs : Nat → Int32} {x y o i : Nat} {Rs : List va_W} (C : q_C p9 s9 m9 args c9 cL_law 9 wsL_law RL D tys Z A) (hZ : q_St Z) {cI cG cJ : ClassId} (hI : tys[0]? = some (cI, .int)) (hG : tys[1]? = some (cG, .object "SortCases$State")) (hJ : tys[2]? = some (cJ, .long)) (hN : q_Ns Z) {ad aw av : Nat → Nat} {tK : Nat} (hKs : q_Ks Z ad aw av tK) {tL tH : Nat} (hVs : q_Vs Z tL tH) (hXs : q_Xs Z) (hlT : l.stackTraces = false) (hXb : va_X b LL xs s9 s9.heap) (hbl : b < s9.heap.size) (hbA : ¬ A b) (hR : R = ({ frames := 12, cells := 601024, slots := 7293034, locals := 454 } : Room)) (hi : i + 3 ≤ LL) (hL : LL ≤ 1536) (hRs : law_I cG cI cJ x y o Rs) (kk : ∀ Rs', law_I cG cI cJ x y o Rs' → q_V p9 l e9 R s9 m9 args below meth c9 D A 9 Q (80 + i + 1) (6951 + 2 * i + 6) 1304 [(4, .int (nI i)), (3, .ref o), (2, .ref y), (1, .ref x), (0, .ref b)] [] Rs') : q_V p9 l e9 R s9 m9 args below meth c9 D A 9 Q (80 + i) (6951 + 2 * i) 839 [(4, .int (nI i)), (3, .ref o), (2, .ref y), (1, .ref x), (0, .ref b)] [] Rs := by
  have hcI := hI
  have hcG := hG
  have B : R = ({ frames := 12, cells := 601024, slots := 7293034, locals := 454 } : Room) ∧ True := ⟨hR, trivial⟩
  have hts := C.2.2.2.2.1
  obtain ⟨⟨bx, at0, ln, sc⟩, sv, hsn, ⟨sb, sa, sl, ss⟩, ⟨nb, na, nl, ns⟩, tx, fd, g, R1, R2, ⟨aO, aY, aN, aT, aK, aB, aL, aS, naB, naL, naS, kb, ka, wX, wO, wA, wB, wL, wH, vO, vA, vB, vL, wT, wK, rX, ⟨rO, rA, rB, rL⟩, rH, ⟨gO, gA, gB, gL⟩, rT, rK, rfl⟩, ⟨mS, mZ, mV, mN, mU, mD, hh, ⟨zb, za, zl, zs⟩, dx, ps, wP, wQ, wZ, wV, wN, wU, wD, rP, rQ, rZ, rV, rN, rU, rD, rfl⟩, hIv, hIs, q4, q8, hsn6, hl6, rfl⟩ := hRs
  have rO : k_isO cI aO aB aL aS sc wO := rO
  have rA : k_isA cI aS sc wA := rA
  have rB : k_isB cI aB bx at0 wB := rB
  have rL : k_isL cI aL ln wL := rL
  have gO : k_isO cI aN naB naL naS ss vO := gO
  have gA : k_isA cI naS ss vA := gA
  have gB : k_isB cI naB sb sa vB := gB
  have gL : k_isL cI naL sl vL := gL
  have rQ : k_isQ cI mS bx at0 ln sc wQ := rQ
  have rZ : k_isQ cI mZ zb za zl zs wZ := rZ
  have rN : k_isQ cI mN nb na nl ns wN := rN
  have hll : ln.length ≤ 40 := rL.1.1
  have htl : tx.length ≤ 60 := rT.1.1
  obtain ⟨v, hxv⟩ : ∃ v, xs (i + 1) = v := ⟨_, rfl⟩
  obtain ⟨v2, hxv2⟩ : ∃ v2, xs (i + 2) = v2 := ⟨_, rfl⟩
  refine q_eqR (Rs' := [wX, wO, wA, wB, wL, wH, vO, vA, vB, vL, wT, wK, wP, wQ, wZ, wV, wN, wU, wD, [(o, .inl (cJ, 1, .inr (.inl g)))]]) rfl ?_
  by_cases hv : (0 : Int32) ≤ v ∧ v < 12
  · obtain ⟨c, hc, rfl⟩ := k_ex12 hv
    by_cases hv2 : nI 0 ≤ v2 ∧ v2 ≤ nI 6
    · obtain ⟨c2, hc2, rfl⟩ := k_exr hv2 (by decide) (by decide)
      refine q_aload_n C dL_law_839 840 3 rfl rfl ?_
      refine q_aload_n C dL_law_840 841 4 rfl rfl ?_
      refine q_iload C dL_law_841 843 0 rfl rfl ?_
      refine q_iconst (v := nI 1) C dL_law_843 844 rfl (by decide) ?_
      refine q_iadd (v := nI (i + 1)) C dL_law_844 845 rfl (q_nadd (by omega)) ?_
      refine q_sld (v := nI c) C hXb hbl hbA (i + 1) rfl (by omega) (by omega) hxv dL_law_845 846 rfl ?_
      refine q_aload_n C dL_law_846 847 4 rfl rfl ?_
      refine q_iload C dL_law_847 849 0 rfl rfl ?_
      refine q_iconst (v := nI 2) C dL_law_849 850 rfl (by decide) ?_
      refine q_iadd (v := nI (i + 2)) C dL_law_850 851 rfl (q_nadd (by omega)) ?_
      refine q_sld (v := nI c2) C hXb hbl hbA (i + 2) rfl (by omega) (by omega) hxv2 dL_law_851 852 rfl ?_
      refine q_aload_n C dL_law_852 853 1 rfl rfl ?_
      refine q_reord [0, 1, 2, 3, 19, 4, 5, 6, 7, 8, 9, 10, 11, 12, 13, 14, 15, 16, 17, 18] (by decide : ([0, 1, 2, 3, 19, 4, 5, 6, 7, 8, 9, 10, 11, 12, 13, 14, 15, 16, 17, 18] : List Nat).Perm (List.range 20)) (Rs' := [wX, wO, wA, wB, [(o, .inl (cJ, 1, .inr (.inl g)))], wL, wH, vO, vA, vB, vL, wT, wK, wP, wQ, wZ, wV, wN, wU, wD]) rfl rfl ?_
      refine q_resp (Rs' := [[wX, wO, wA, wB].flatten, [(o, .inl (cJ, 1, .inr (.inl g)))], wL, wH, vO, vA, vB, vL, wT, wK, wP, wQ, wZ, wV, wN, wU, wD]) (by simp) ?_
      refine q_callSW (n := 4) (As := [.ref x, .int (nI c), .int (nI c2), .ref o]) (rest := []) (Rr := [wL, wH, vO, vA, vB, vL, wT, wK, wP, wQ, wZ, wV, wN, wU, wD]) C (c_L_box_ok l hZ hJ x o (nI c) (nI c2) (r := k_tb bx at0 sc c c2) (q_hd (k_isX_recv rX)) (q_Cflat (List.append_nil _).symm (c_X6_box_c l hZ hI hN x aO aY aN hsn aT aK wX rX aB aL aS sc wO rO wA rA bx at0 wB rB c c2 (by omega) (by omega))) (Nat.le_of_ble_eq_true rfl) (Nat.le_of_ble_eq_true rfl) rfl rfl (fun _ _ _ h => h.1) g) gL_law_L_box rfl rfl rfl (by decide +kernel) B.1 ⟨Nat.le_of_ble_eq_true rfl, Nat.le_of_ble_eq_true rfl⟩ rfl rfl (Nat.le_of_ble_eq_true rfl) dL_law_853 ⟨(by show (80 + i) + 0 ≤ 601024; omega), (by show (6951 + 2 * i) + 0 ≤ 7293034; omega)⟩ [0, 1] [2, 3, 4, 5, 6, 7, 8, 9, 10, 11, 12, 13, 14, 15, 16] (by decide : ([0, 1] ++ ([2, 3, 4, 5, 6, 7, 8, 9, 10, 11, 12, 13, 14, 15, 16] : List Nat)).Perm (List.range 17)) rfl rfl 856 rfl (fun v0 R0 t0 ht0 hp0 => ?_)
      obtain ⟨rfl, R1, t1, ⟨-, rfl⟩, rfl⟩ := hp0
      refine q_eqs (st' := [.int (nI 0)]) rfl ?_
      refine q_resp (Rs' := [wX, wO, wA, wB, [(o, .inl (cJ, 1, .inr (.inl (va_up g 0 (k_tb bx at0 sc c c2).toInt64))))], wL, wH, vO, vA, vB, vL, wT, wK, wP, wQ, wZ, wV, wN, wU, wD]) (by simp) ?_
      refine q_reord [0, 1, 2, 3, 5, 6, 7, 8, 9, 10, 11, 12, 13, 14, 15, 16, 17, 18, 19, 4] (by decide : ([0, 1, 2, 3, 5, 6, 7, 8, 9, 10, 11, 12, 13, 14, 15, 16, 17, 18, 19, 4] : List Nat).Perm (List.range 20)) (Rs' := [wX, wO, wA, wB, wL, wH, vO, vA, vB, vL, wT, wK, wP, wQ, wZ, wV, wN, wU, wD, [(o, .inl (cJ, 1, .inr (.inl (va_up g 0 (k_tb bx at0 sc c c2).toInt64))))]]) rfl rfl ?_
      refine q_istore C dL_law_856 858 rfl [(5, .int (nI 0)), (4, .int (nI i)), (3, .ref o), (2, .ref y), (1, .ref x), (0, .ref b)] (by decide) rfl ?_
      refine q_aload_n C dL_law_858 859 3 rfl rfl ?_
      refine q_aload_n C dL_law_859 860 5 rfl rfl ?_
      refine q_iload C dL_law_860 862 1 rfl rfl ?_
      refine q_iconst (v := nI 1) C dL_law_862 863 rfl (by decide) ?_
      refine q_iadd (v := nI (i + 1)) C dL_law_863 864 rfl (q_nadd (by omega)) ?_
      refine q_sld (v := nI c) C hXb hbl hbA (i + 1) rfl (by omega) (by omega) hxv dL_law_864 865 rfl ?_
      refine q_aload_n C dL_law_865 866 5 rfl rfl ?_
      refine q_iload C dL_law_866 868 1 rfl rfl ?_
      refine q_iconst (v := nI 2) C dL_law_868 869 rfl (by decide) ?_
      refine q_iadd (v := nI (i + 2)) C dL_law_869 870 rfl (q_nadd (by omega)) ?_
      refine q_sld (v := nI c2) C hXb hbl hbA (i + 2) rfl (by omega) (by omega) hxv2 dL_law_870 871 rfl ?_
      refine q_callV (k := 12) (ci := 6) (n := 2) (rest := []) (Rr := [wX, wO, wA, wB, wL, wH, vO, vA, vB, vL, wT, wK, wZ, wV, wN, wU, wD, [(o, .inl (cJ, 1, .inr (.inl (va_up g 0 (k_tb bx at0 sc c c2).toInt64))))]]) C rfl (k_isP_recv rP) rfl (c_X7_box_c l hZ hI y mS mZ mV mN mU mD fd hh wP rP bx at0 ln sc wQ rQ c c2 (by omega) (by omega)) gL_law_X7_box rfl rfl rfl (by decide +kernel) B.1 ⟨Nat.le_of_ble_eq_true rfl, Nat.le_of_ble_eq_true rfl⟩ rfl rfl (Nat.le_of_ble_eq_true rfl) dL_law_871 ⟨(by show ((80 + i) + 0) + 0 ≤ 601024; omega), (by show ((6951 + 2 * i) + 0) + 0 ≤ 7293034; omega)⟩ [12, 13] [0, 1, 2, 3, 4, 5, 6, 7, 8, 9, 10, 11, 14, 15, 16, 17, 18, 19] (by decide : ([12, 13] ++ ([0, 1, 2, 3, 4, 5, 6, 7, 8, 9, 10, 11, 14, 15, 16, 17, 18, 19] : List Nat)).Perm (List.range 20)) rfl rfl 874 rfl (fun v0 R0 t0 ht0 hp0 => ?_)
      obtain ⟨rfl, wP_871, hwP_871, rfl⟩ := hp0
      refine q_eqs (st' := [.int (k_tb bx at0 sc c c2)]) rfl ?_
      refine q_reord [2, 3, 4, 5, 6, 7, 8, 9, 10, 11, 12, 13, 0, 1, 14, 15, 16, 17, 18, 19] (by decide : ([2, 3, 4, 5, 6, 7, 8, 9, 10, 11, 12, 13, 0, 1, 14, 15, 16, 17, 18, 19] : List Nat).Perm (List.range 20)) (Rs' := [wX, wO, wA, wB, wL, wH, vO, vA, vB, vL, wT, wK, wP_871, wQ, wZ, wV, wN, wU, wD, [(o, .inl (cJ, 1, .inr (.inl (va_up g 0 (k_tb bx at0 sc c c2).toInt64))))]]) rfl rfl ?_
      refine q_istore C dL_law_874 876 rfl [(6, .int (k_tb bx at0 sc c c2)), (5, .int (nI 0)), (4, .int (nI i)), (3, .ref o), (2, .ref y), (1, .ref x), (0, .ref b)] (by decide) rfl ?_
      refine q_aload_n C dL_law_876 877 4 rfl rfl ?_
      refine q_callV (k := 12) (ci := 6) (n := 0) (rest := []) (Rr := [wX, wO, wA, wB, wL, wH, vO, vA, vB, vL, wT, wK, wQ, wZ, wV, wN, wU, wD, [(o, .inl (cJ, 1, .inr (.inl (va_up g 0 (k_tb bx at0 sc c c2).toInt64))))]]) C rfl (k_isP_recv hwP_871) rfl (c_X7_thrown l hZ hI y mS mZ mV mN mU mD (upd fd 0 (nI 0)) hh wP_871 hwP_871) gL_law_X7_thrown rfl rfl rfl (by decide +kernel) B.1 ⟨Nat.le_of_ble_eq_true rfl, Nat.le_of_ble_eq_true rfl⟩ rfl rfl (Nat.le_of_ble_eq_true rfl) dL_law_877 ⟨(by show ((80 + i) + 0) + 0 ≤ 601024; omega), (by show ((6951 + 2 * i) + 0) + 0 ≤ 7293034; omega)⟩ [12] [0, 1, 2, 3, 4, 5, 6, 7, 8, 9, 10, 11, 13, 14, 15, 16, 17, 18, 19] (by decide : ([12] ++ ([0, 1, 2, 3, 4, 5, 6, 7, 8, 9, 10, 11, 13, 14, 15, 16, 17, 18, 19] : List Nat)).Perm (List.range 20)) rfl rfl 880 rfl (fun v0 R0 t0 ht0 hp0 => ?_)
      obtain ⟨rfl, rfl⟩ := hp0
      refine q_eqs (st' := [.int ((upd fd 0 (nI 0)) 0)]) rfl ?_
      refine q_reord [1, 2, 3, 4, 5, 6, 7, 8, 9, 10, 11, 12, 0, 13, 14, 15, 16, 17, 18, 19] (by decide : ([1, 2, 3, 4, 5, 6, 7, 8, 9, 10, 11, 12, 0, 13, 14, 15, 16, 17, 18, 19] : List Nat).Perm (List.range 20)) (Rs' := [wX, wO, wA, wB, wL, wH, vO, vA, vB, vL, wT, wK, wP_871, wQ, wZ, wV, wN, wU, wD, [(o, .inl (cJ, 1, .inr (.inl (va_up g 0 (k_tb bx at0 sc c c2).toInt64))))]]) rfl rfl ?_
      refine q_eqs (st' := [.int (nI 0)]) (by rw [pk_us]) ?_
      refine q_iload C dL_law_880 882 1 rfl rfl ?_
      refine q_icmp_eq C dL_law_882 885 887 rfl (by decide) (nI_eq (by omega) (by omega)) (fun h882 => ?_) (fun h882 => False.elim (by first | omega | simp_all))
      refine q_iload C dL_law_887 889 1 rfl rfl ?_
      refine q_if_ne C dL_law_889 892 904 rfl (by decide) (q_eq0 (by omega)) (fun h889 => False.elim (by first | omega | simp_all)) (fun h889 => ?_)
      refine q_aload_n C dL_law_892 893 3 rfl rfl ?_
      refine q_iconst (v := nI 0) C dL_law_893 894 rfl (by decide) ?_
      refine q_lald (k := 19) (j := 0) (v := (k_tb bx at0 sc c c2).toInt64) C dL_law_894 895 rfl rfl rfl hJ 0 rfl (by decide) (by decide) k_up_s ?_
      refine q_iload C dL_law_895 897 0 rfl rfl ?_
      refine q_i2l (v := ((k_tb bx at0 sc c c2) : Int32).toInt64) C dL_law_897 898 rfl rfl ?_
      refine q_lcmp C dL_law_898 899 rfl ?_
      refine q_if_eq C dL_law_899 902 904 rfl (by decide) Iff.rfl (fun h899 => ?_) (fun h899 => False.elim (h899 (lg_self _)))
      refine q_goto C dL_law_904 1304 (by decide) ?_
      refine q_sub (L' := [(4, .int (nI i)), (3, .ref o), (2, .ref y), (1, .ref x), (0, .ref b)]) [2, 3, 4, 5, 6] rfl ?_
      refine q_widen (k := 80 + i + 1) (n := 6951 + 2 * i + 6) (by omega) (by omega) ?_
      exact kk _ ⟨(bx, at0, ln, sc), sv, hsn, (sb, sa, sl, ss), (nb, na, nl, ns), tx, upd fd 0 (nI 0), va_up g 0 (k_tb bx at0 sc c c2).toInt64, _, _, ⟨_, _, _, _, _, _, _, _, _, _, _, _, _, _, _, _, _, _, _, _, _, _, _, _, _, rX, ⟨rO, rA, rB, rL⟩, rH, ⟨gO, gA, gB, gL⟩, rT, rK, rfl⟩, ⟨_, _, _, _, _, _, _, (zb, za, zl, zs), _, _, _, _, _, _, _, _, _, hwP_871, rQ, rZ, rV, rN, rU, rD, rfl⟩, hIv, hIs, (by rw [pk_un (by decide)]; exact q4), (by rw [pk_un (by decide)]; exact q8), (k_Sn_eq hsn6 (by rw [pk_un (by decide)])), hl6, rfl⟩
      
    · refine q_aload_n C dL_law_839 840 3 rfl rfl ?_
      refine q_aload_n C dL_law_840 841 4 rfl rfl ?_
      refine q_iload C dL_law_841 843 0 rfl rfl ?_
      refine q_iconst (v := nI 1) C dL_law_843 844 rfl (by decide) ?_
      refine q_iadd (v := nI (i + 1)) C dL_law_844 845 rfl (q_nadd (by omega)) ?_
      refine q_sld (v := nI c) C hXb hbl hbA (i + 1) rfl (by omega) (by omega) hxv dL_law_845 846 rfl ?_
      refine q_aload_n C dL_law_846 847 4 rfl rfl ?_
      refine q_iload C dL_law_847 849 0 rfl rfl ?_
      refine q_iconst (v := nI 2) C dL_law_849 850 rfl (by decide) ?_
      refine q_iadd (v := nI (i + 2)) C dL_law_850 851 rfl (q_nadd (by omega)) ?_
      refine q_sld (v := v2) C hXb hbl hbA (i + 2) rfl (by omega) (by omega) hxv2 dL_law_851 852 rfl ?_
      refine q_aload_n C dL_law_852 853 1 rfl rfl ?_
      refine q_reord [0, 19, 1, 2, 3, 4, 5, 6, 7, 8, 9, 10, 11, 12, 13, 14, 15, 16, 17, 18] (by decide : ([0, 19, 1, 2, 3, 4, 5, 6, 7, 8, 9, 10, 11, 12, 13, 14, 15, 16, 17, 18] : List Nat).Perm (List.range 20)) (Rs' := [wX, [(o, .inl (cJ, 1, .inr (.inl g)))], wO, wA, wB, wL, wH, vO, vA, vB, vL, wT, wK, wP, wQ, wZ, wV, wN, wU, wD]) rfl rfl ?_
      refine q_resp (Rs' := [[wX].flatten, [(o, .inl (cJ, 1, .inr (.inl g)))], wO, wA, wB, wL, wH, vO, vA, vB, vL, wT, wK, wP, wQ, wZ, wV, wN, wU, wD]) (by simp) ?_
      refine q_callSW (n := 4) (As := [.ref x, .int (nI c), .int v2, .ref o]) (rest := []) (Rr := [wO, wA, wB, wL, wH, vO, vA, vB, vL, wT, wK, wP, wQ, wZ, wV, wN, wU, wD]) C (c_L_box_x2 l hZ hJ hXs x o (nI c) v2 (q_hd (k_isX_recv rX)) (q_Xflat (List.append_nil _).symm (c_X6_box_b l hZ hI hN hXs hlT x aO aY aN hsn aT aK wX rX c v2 (by omega) hv2)) (Nat.le_of_ble_eq_true rfl) (Nat.le_of_ble_eq_true rfl) rfl rfl g) gL_law_L_box rfl rfl rfl (by decide +kernel) B.1 ⟨Nat.le_of_ble_eq_true rfl, Nat.le_of_ble_eq_true rfl⟩ rfl rfl (Nat.le_of_ble_eq_true rfl) dL_law_853 ⟨(by show (80 + i) + 1 ≤ 601024; omega), (by show (6951 + 2 * i) + 6 ≤ 7293034; omega)⟩ [0, 1] [2, 3, 4, 5, 6, 7, 8, 9, 10, 11, 12, 13, 14, 15, 16, 17, 18, 19] (by decide : ([0, 1] ++ ([2, 3, 4, 5, 6, 7, 8, 9, 10, 11, 12, 13, 14, 15, 16, 17, 18, 19] : List Nat)).Perm (List.range 20)) rfl rfl 856 rfl (fun v0 R0 t0 ht0 hp0 => ?_)
      obtain ⟨rfl, rfl⟩ := hp0
      refine q_eqs (st' := [.int (nI 2)]) rfl ?_
      refine q_resp (Rs' := [wX, [(o, .inl (cJ, 1, .inr (.inl g)))], wO, wA, wB, wL, wH, vO, vA, vB, vL, wT, wK, wP, wQ, wZ, wV, wN, wU, wD]) (by simp) ?_
      refine q_reord [0, 2, 3, 4, 5, 6, 7, 8, 9, 10, 11, 12, 13, 14, 15, 16, 17, 18, 19, 1] (by decide : ([0, 2, 3, 4, 5, 6, 7, 8, 9, 10, 11, 12, 13, 14, 15, 16, 17, 18, 19, 1] : List Nat).Perm (List.range 20)) (Rs' := [wX, wO, wA, wB, wL, wH, vO, vA, vB, vL, wT, wK, wP, wQ, wZ, wV, wN, wU, wD, [(o, .inl (cJ, 1, .inr (.inl g)))]]) rfl rfl ?_
      refine q_istore C dL_law_856 858 rfl [(5, .int (nI 2)), (4, .int (nI i)), (3, .ref o), (2, .ref y), (1, .ref x), (0, .ref b)] (by decide) rfl ?_
      refine q_aload_n C dL_law_858 859 3 rfl rfl ?_
      refine q_aload_n C dL_law_859 860 5 rfl rfl ?_
      refine q_iload C dL_law_860 862 1 rfl rfl ?_
      refine q_iconst (v := nI 1) C dL_law_862 863 rfl (by decide) ?_
      refine q_iadd (v := nI (i + 1)) C dL_law_863 864 rfl (q_nadd (by omega)) ?_
      refine q_sld (v := nI c) C hXb hbl hbA (i + 1) rfl (by omega) (by omega) hxv dL_law_864 865 rfl ?_
      refine q_aload_n C dL_law_865 866 5 rfl rfl ?_
      refine q_iload C dL_law_866 868 1 rfl rfl ?_
      refine q_iconst (v := nI 2) C dL_law_868 869 rfl (by decide) ?_
      refine q_iadd (v := nI (i + 2)) C dL_law_869 870 rfl (q_nadd (by omega)) ?_
      refine q_sld (v := v2) C hXb hbl hbA (i + 2) rfl (by omega) (by omega) hxv2 dL_law_870 871 rfl ?_
      refine q_callV (k := 12) (ci := 6) (n := 2) (rest := []) (Rr := [wX, wO, wA, wB, wL, wH, vO, vA, vB, vL, wT, wK, wQ, wZ, wV, wN, wU, wD, [(o, .inl (cJ, 1, .inr (.inl g)))]]) C rfl (k_isP_recv rP) rfl (c_X7_box_b l hZ hI y mS mZ mV mN mU mD fd hh wP rP c v2 (by omega) hv2) gL_law_X7_box rfl rfl rfl (by decide +kernel) B.1 ⟨Nat.le_of_ble_eq_true rfl, Nat.le_of_ble_eq_true rfl⟩ rfl rfl (Nat.le_of_ble_eq_true rfl) dL_law_871 ⟨(by show ((80 + i) + 1) + 0 ≤ 601024; omega), (by show ((6951 + 2 * i) + 6) + 0 ≤ 7293034; omega)⟩ [12] [0, 1, 2, 3, 4, 5, 6, 7, 8, 9, 10, 11, 13, 14, 15, 16, 17, 18, 19] (by decide : ([12] ++ ([0, 1, 2, 3, 4, 5, 6, 7, 8, 9, 10, 11, 13, 14, 15, 16, 17, 18, 19] : List Nat)).Perm (List.range 20)) rfl rfl 874 rfl (fun v0 R0 t0 ht0 hp0 => ?_)
      obtain ⟨rfl, w_871, hw_871, rfl⟩ := hp0
      refine q_eqs (st' := [.int (nI 0)]) rfl ?_
      refine q_reord [1, 2, 3, 4, 5, 6, 7, 8, 9, 10, 11, 12, 0, 13, 14, 15, 16, 17, 18, 19] (by decide : ([1, 2, 3, 4, 5, 6, 7, 8, 9, 10, 11, 12, 0, 13, 14, 15, 16, 17, 18, 19] : List Nat).Perm (List.range 20)) (Rs' := [wX, wO, wA, wB, wL, wH, vO, vA, vB, vL, wT, wK, w_871, wQ, wZ, wV, wN, wU, wD, [(o, .inl (cJ, 1, .inr (.inl g)))]]) rfl rfl ?_
      refine q_istore C dL_law_874 876 rfl [(6, .int (nI 0)), (5, .int (nI 2)), (4, .int (nI i)), (3, .ref o), (2, .ref y), (1, .ref x), (0, .ref b)] (by decide) rfl ?_
      refine q_aload_n C dL_law_876 877 4 rfl rfl ?_
      refine q_callV (k := 12) (ci := 6) (n := 0) (rest := []) (Rr := [wX, wO, wA, wB, wL, wH, vO, vA, vB, vL, wT, wK, wQ, wZ, wV, wN, wU, wD, [(o, .inl (cJ, 1, .inr (.inl g)))]]) C rfl (k_isP_recv hw_871) rfl (c_X7_thrown l hZ hI y mS mZ mV mN mU mD (upd (upd fd 0 (nI 0)) 0 (nI 2)) hh w_871 hw_871) gL_law_X7_thrown rfl rfl rfl (by decide +kernel) B.1 ⟨Nat.le_of_ble_eq_true rfl, Nat.le_of_ble_eq_true rfl⟩ rfl rfl (Nat.le_of_ble_eq_true rfl) dL_law_877 ⟨(by show ((80 + i) + 1) + 0 ≤ 601024; omega), (by show ((6951 + 2 * i) + 6) + 0 ≤ 7293034; omega)⟩ [12] [0, 1, 2, 3, 4, 5, 6, 7, 8, 9, 10, 11, 13, 14, 15, 16, 17, 18, 19] (by decide : ([12] ++ ([0, 1, 2, 3, 4, 5, 6, 7, 8, 9, 10, 11, 13, 14, 15, 16, 17, 18, 19] : List Nat)).Perm (List.range 20)) rfl rfl 880 rfl (fun v0 R0 t0 ht0 hp0 => ?_)
      obtain ⟨rfl, rfl⟩ := hp0
      refine q_eqs (st' := [.int ((upd (upd fd 0 (nI 0)) 0 (nI 2)) 0)]) rfl ?_
      refine q_reord [1, 2, 3, 4, 5, 6, 7, 8, 9, 10, 11, 12, 0, 13, 14, 15, 16, 17, 18, 19] (by decide : ([1, 2, 3, 4, 5, 6, 7, 8, 9, 10, 11, 12, 0, 13, 14, 15, 16, 17, 18, 19] : List Nat).Perm (List.range 20)) (Rs' := [wX, wO, wA, wB, wL, wH, vO, vA, vB, vL, wT, wK, w_871, wQ, wZ, wV, wN, wU, wD, [(o, .inl (cJ, 1, .inr (.inl g)))]]) rfl rfl ?_
      refine q_eqs (st' := [.int (nI 2)]) (by rw [pk_us]) ?_
      refine q_iload C dL_law_880 882 1 rfl rfl ?_
      refine q_icmp_eq C dL_law_882 885 887 rfl (by decide) (nI_eq (by omega) (by omega)) (fun h882 => ?_) (fun h882 => False.elim (by first | omega | simp_all))
      refine q_iload C dL_law_887 889 1 rfl rfl ?_
      refine q_if_ne C dL_law_889 892 904 rfl (by decide) (q_eq0 (by omega)) (fun h889 => ?_) (fun h889 => False.elim (by first | omega | simp_all))
      refine q_goto C dL_law_904 1304 (by decide) ?_
      refine q_sub (L' := [(4, .int (nI i)), (3, .ref o), (2, .ref y), (1, .ref x), (0, .ref b)]) [2, 3, 4, 5, 6] rfl ?_
      refine q_widen (k := 80 + i + 1) (n := 6951 + 2 * i + 6) (by omega) (by omega) ?_
      exact kk _ ⟨(bx, at0, ln, sc), sv, hsn, (sb, sa, sl, ss), (nb, na, nl, ns), tx, upd (upd fd 0 (nI 0)) 0 (nI 2), g, _, _, ⟨_, _, _, _, _, _, _, _, _, _, _, _, _, _, _, _, _, _, _, _, _, _, _, _, _, rX, ⟨rO, rA, rB, rL⟩, rH, ⟨gO, gA, gB, gL⟩, rT, rK, rfl⟩, ⟨_, _, _, _, _, _, _, (zb, za, zl, zs), _, _, _, _, _, _, _, _, _, hw_871, rQ, rZ, rV, rN, rU, rD, rfl⟩, hIv, hIs, (by rw [pk_un (by decide), pk_un (by decide)]; exact q4), (by rw [pk_un (by decide), pk_un (by decide)]; exact q8), (k_Sn_eq hsn6 (by rw [pk_un (by decide), pk_un (by decide)])), hl6, rfl⟩
      
  · refine q_aload_n C dL_law_839 840 3 rfl rfl ?_
    refine q_aload_n C dL_law_840 841 4 rfl rfl ?_
    refine q_iload C dL_law_841 843 0 rfl rfl ?_
    refine q_iconst (v := nI 1) C dL_law_843 844 rfl (by decide) ?_
    refine q_iadd (v := nI (i + 1)) C dL_law_844 845 rfl (q_nadd (by omega)) ?_
    refine q_sld (v := v) C hXb hbl hbA (i + 1) rfl (by omega) (by omega) hxv dL_law_845 846 rfl ?_
    refine q_aload_n C dL_law_846 847 4 rfl rfl ?_
    refine q_iload C dL_law_847 849 0 rfl rfl ?_
    refine q_iconst (v := nI 2) C dL_law_849 850 rfl (by decide) ?_
    refine q_iadd (v := nI (i + 2)) C dL_law_850 851 rfl (q_nadd (by omega)) ?_
    refine q_sld (v := v2) C hXb hbl hbA (i + 2) rfl (by omega) (by omega) hxv2 dL_law_851 852 rfl ?_
    refine q_aload_n C dL_law_852 853 1 rfl rfl ?_
    refine q_reord [0, 19, 1, 2, 3, 4, 5, 6, 7, 8, 9, 10, 11, 12, 13, 14, 15, 16, 17, 18] (by decide : ([0, 19, 1, 2, 3, 4, 5, 6, 7, 8, 9, 10, 11, 12, 13, 14, 15, 16, 17, 18] : List Nat).Perm (List.range 20)) (Rs' := [wX, [(o, .inl (cJ, 1, .inr (.inl g)))], wO, wA, wB, wL, wH, vO, vA, vB, vL, wT, wK, wP, wQ, wZ, wV, wN, wU, wD]) rfl rfl ?_
    refine q_resp (Rs' := [[wX].flatten, [(o, .inl (cJ, 1, .inr (.inl g)))], wO, wA, wB, wL, wH, vO, vA, vB, vL, wT, wK, wP, wQ, wZ, wV, wN, wU, wD]) (by simp) ?_
    refine q_callSW (n := 4) (As := [.ref x, .int v, .int v2, .ref o]) (rest := []) (Rr := [wO, wA, wB, wL, wH, vO, vA, vB, vL, wT, wK, wP, wQ, wZ, wV, wN, wU, wD]) C (c_L_box_x1 l hZ hJ hXs x o v v2 (q_hd (k_isX_recv rX)) (q_Xflat (List.append_nil _).symm (c_X6_box_a l hZ hI hN hXs hlT x aO aY aN hsn aT aK wX rX v v2 hv)) (Nat.le_of_ble_eq_true rfl) (Nat.le_of_ble_eq_true rfl) rfl rfl g) gL_law_L_box rfl rfl rfl (by decide +kernel) B.1 ⟨Nat.le_of_ble_eq_true rfl, Nat.le_of_ble_eq_true rfl⟩ rfl rfl (Nat.le_of_ble_eq_true rfl) dL_law_853 ⟨(by show (80 + i) + 1 ≤ 601024; omega), (by show (6951 + 2 * i) + 6 ≤ 7293034; omega)⟩ [0, 1] [2, 3, 4, 5, 6, 7, 8, 9, 10, 11, 12, 13, 14, 15, 16, 17, 18, 19] (by decide : ([0, 1] ++ ([2, 3, 4, 5, 6, 7, 8, 9, 10, 11, 12, 13, 14, 15, 16, 17, 18, 19] : List Nat)).Perm (List.range 20)) rfl rfl 856 rfl (fun v0 R0 t0 ht0 hp0 => ?_)
    obtain ⟨rfl, rfl⟩ := hp0
    refine q_eqs (st' := [.int (nI 1)]) rfl ?_
    refine q_resp (Rs' := [wX, [(o, .inl (cJ, 1, .inr (.inl g)))], wO, wA, wB, wL, wH, vO, vA, vB, vL, wT, wK, wP, wQ, wZ, wV, wN, wU, wD]) (by simp) ?_
    refine q_reord [0, 2, 3, 4, 5, 6, 7, 8, 9, 10, 11, 12, 13, 14, 15, 16, 17, 18, 19, 1] (by decide : ([0, 2, 3, 4, 5, 6, 7, 8, 9, 10, 11, 12, 13, 14, 15, 16, 17, 18, 19, 1] : List Nat).Perm (List.range 20)) (Rs' := [wX, wO, wA, wB, wL, wH, vO, vA, vB, vL, wT, wK, wP, wQ, wZ, wV, wN, wU, wD, [(o, .inl (cJ, 1, .inr (.inl g)))]]) rfl rfl ?_
    refine q_istore C dL_law_856 858 rfl [(5, .int (nI 1)), (4, .int (nI i)), (3, .ref o), (2, .ref y), (1, .ref x), (0, .ref b)] (by decide) rfl ?_
    refine q_aload_n C dL_law_858 859 3 rfl rfl ?_
    refine q_aload_n C dL_law_859 860 5 rfl rfl ?_
    refine q_iload C dL_law_860 862 1 rfl rfl ?_
    refine q_iconst (v := nI 1) C dL_law_862 863 rfl (by decide) ?_
    refine q_iadd (v := nI (i + 1)) C dL_law_863 864 rfl (q_nadd (by omega)) ?_
    refine q_sld (v := v) C hXb hbl hbA (i + 1) rfl (by omega) (by omega) hxv dL_law_864 865 rfl ?_
    refine q_aload_n C dL_law_865 866 5 rfl rfl ?_
    refine q_iload C dL_law_866 868 1 rfl rfl ?_
    refine q_iconst (v := nI 2) C dL_law_868 869 rfl (by decide) ?_
    refine q_iadd (v := nI (i + 2)) C dL_law_869 870 rfl (q_nadd (by omega)) ?_
    refine q_sld (v := v2) C hXb hbl hbA (i + 2) rfl (by omega) (by omega) hxv2 dL_law_870 871 rfl ?_
    refine q_callV (k := 12) (ci := 6) (n := 2) (rest := []) (Rr := [wX, wO, wA, wB, wL, wH, vO, vA, vB, vL, wT, wK, wQ, wZ, wV, wN, wU, wD, [(o, .inl (cJ, 1, .inr (.inl g)))]]) C rfl (k_isP_recv rP) rfl (c_X7_box_a l hZ hI y mS mZ mV mN mU mD fd hh wP rP v v2 (k_nb12 hv)) gL_law_X7_box rfl rfl rfl (by decide +kernel) B.1 ⟨Nat.le_of_ble_eq_true rfl, Nat.le_of_ble_eq_true rfl⟩ rfl rfl (Nat.le_of_ble_eq_true rfl) dL_law_871 ⟨(by show ((80 + i) + 1) + 0 ≤ 601024; omega), (by show ((6951 + 2 * i) + 6) + 0 ≤ 7293034; omega)⟩ [12] [0, 1, 2, 3, 4, 5, 6, 7, 8, 9, 10, 11, 13, 14, 15, 16, 17, 18, 19] (by decide : ([12] ++ ([0, 1, 2, 3, 4, 5, 6, 7, 8, 9, 10, 11, 13, 14, 15, 16, 17, 18, 19] : List Nat)).Perm (List.range 20)) rfl rfl 874 rfl (fun v0 R0 t0 ht0 hp0 => ?_)
    obtain ⟨rfl, w_871, hw_871, rfl⟩ := hp0
    refine q_eqs (st' := [.int (nI 0)]) rfl ?_
    refine q_reord [1, 2, 3, 4, 5, 6, 7, 8, 9, 10, 11, 12, 0, 13, 14, 15, 16, 17, 18, 19] (by decide : ([1, 2, 3, 4, 5, 6, 7, 8, 9, 10, 11, 12, 0, 13, 14, 15, 16, 17, 18, 19] : List Nat).Perm (List.range 20)) (Rs' := [wX, wO, wA, wB, wL, wH, vO, vA, vB, vL, wT, wK, w_871, wQ, wZ, wV, wN, wU, wD, [(o, .inl (cJ, 1, .inr (.inl g)))]]) rfl rfl ?_
    refine q_istore C dL_law_874 876 rfl [(6, .int (nI 0)), (5, .int (nI 1)), (4, .int (nI i)), (3, .ref o), (2, .ref y), (1, .ref x), (0, .ref b)] (by decide) rfl ?_
    refine q_aload_n C dL_law_876 877 4 rfl rfl ?_
    refine q_callV (k := 12) (ci := 6) (n := 0) (rest := []) (Rr := [wX, wO, wA, wB, wL, wH, vO, vA, vB, vL, wT, wK, wQ, wZ, wV, wN, wU, wD, [(o, .inl (cJ, 1, .inr (.inl g)))]]) C rfl (k_isP_recv hw_871) rfl (c_X7_thrown l hZ hI y mS mZ mV mN mU mD (upd (upd fd 0 (nI 0)) 0 (nI 1)) hh w_871 hw_871) gL_law_X7_thrown rfl rfl rfl (by decide +kernel) B.1 ⟨Nat.le_of_ble_eq_true rfl, Nat.le_of_ble_eq_true rfl⟩ rfl rfl (Nat.le_of_ble_eq_true rfl) dL_law_877 ⟨(by show ((80 + i) + 1) + 0 ≤ 601024; omega), (by show ((6951 + 2 * i) + 6) + 0 ≤ 7293034; omega)⟩ [12] [0, 1, 2, 3, 4, 5, 6, 7, 8, 9, 10, 11, 13, 14, 15, 16, 17, 18, 19] (by decide : ([12] ++ ([0, 1, 2, 3, 4, 5, 6, 7, 8, 9, 10, 11, 13, 14, 15, 16, 17, 18, 19] : List Nat)).Perm (List.range 20)) rfl rfl 880 rfl (fun v0 R0 t0 ht0 hp0 => ?_)
    obtain ⟨rfl, rfl⟩ := hp0
    refine q_eqs (st' := [.int ((upd (upd fd 0 (nI 0)) 0 (nI 1)) 0)]) rfl ?_
    refine q_reord [1, 2, 3, 4, 5, 6, 7, 8, 9, 10, 11, 12, 0, 13, 14, 15, 16, 17, 18, 19] (by decide : ([1, 2, 3, 4, 5, 6, 7, 8, 9, 10, 11, 12, 0, 13, 14, 15, 16, 17, 18, 19] : List Nat).Perm (List.range 20)) (Rs' := [wX, wO, wA, wB, wL, wH, vO, vA, vB, vL, wT, wK, w_871, wQ, wZ, wV, wN, wU, wD, [(o, .inl (cJ, 1, .inr (.inl g)))]]) rfl rfl ?_
    refine q_eqs (st' := [.int (nI 1)]) (by rw [pk_us]) ?_
    refine q_iload C dL_law_880 882 1 rfl rfl ?_
    refine q_icmp_eq C dL_law_882 885 887 rfl (by decide) (nI_eq (by omega) (by omega)) (fun h882 => ?_) (fun h882 => False.elim (by first | omega | simp_all))
    refine q_iload C dL_law_887 889 1 rfl rfl ?_
    refine q_if_ne C dL_law_889 892 904 rfl (by decide) (q_eq0 (by omega)) (fun h889 => ?_) (fun h889 => False.elim (by first | omega | simp_all))
    refine q_goto C dL_law_904 1304 (by decide) ?_
    refine q_sub (L' := [(4, .int (nI i)), (3, .ref o), (2, .ref y), (1, .ref x), (0, .ref b)]) [2, 3, 4, 5, 6] rfl ?_
    refine q_widen (k := 80 + i + 1) (n := 6951 + 2 * i + 6) (by omega) (by omega) ?_
    exact kk _ ⟨(bx, at0, ln, sc), sv, hsn, (sb, sa, sl, ss), (nb, na, nl, ns), tx, upd (upd fd 0 (nI 0)) 0 (nI 1), g, _, _, ⟨_, _, _, _, _, _, _, _, _, _, _, _, _, _, _, _, _, _, _, _, _, _, _, _, _, rX, ⟨rO, rA, rB, rL⟩, rH, ⟨gO, gA, gB, gL⟩, rT, rK, rfl⟩, ⟨_, _, _, _, _, _, _, (zb, za, zl, zs), _, _, _, _, _, _, _, _, _, hw_871, rQ, rZ, rV, rN, rU, rD, rfl⟩, hIv, hIs, (by rw [pk_un (by decide), pk_un (by decide)]; exact q4), (by rw [pk_un (by decide), pk_un (by decide)]; exact q8), (k_Sn_eq hsn6 (by rw [pk_un (by decide), pk_un (by decide)])), hl6, rfl⟩
    
