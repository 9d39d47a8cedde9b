set_option maxHeartbeats 1000000 in
set_option maxRecDepth 100000 in
theorem law_c16 {p9 : Program} {l : Launch} {e9 : Env} {R : Room} {s9 : State} {m9 : MethodId} {args : Array Value} {below : List Frame} {meth : Method} {c9 : Code} {Q : State → Prop} {D : va_G} {tys : List (ClassId × FieldType)} {A : Nat → Prop} {Z : (Nat → Prop) → State → Heap → Prop} {b LL : Nat} {xs : Nat → Int32} {x y o i : Nat} {Rs : List va_W} (C : q_C p9 s9 m9 args c9 cL_law 9 wsL_law RL D tys Z A) (hZ : q_St Z) {cI cG cJ : ClassId} (hI : tys[0]? = some (cI, .int)) (hG : tys[1]? = some (cG, .object "SortCases$State")) (hJ : tys[2]? = some (cJ, .long)) (hN : q_Ns Z) {ad aw av : Nat → Nat} {tK : Nat} (hKs : q_Ks Z ad aw av tK) {tL tH : Nat} (hVs : q_Vs Z tL tH) (hXs : q_Xs Z) (hlT : l.stackTraces = false) (hXb : va_X b LL xs s9 s9.heap) (hbl : b < s9.heap.size) (hbA : ¬ A b) (hR : R = ({ frames := 12, cells := 601024, slots := 7293034, locals := 454 } : Room)) (hi : i + 3 ≤ LL) (hL : LL ≤ 1536) (hRs : law_I cG cI cJ x y o Rs) (kk : ∀ Rs', law_I cG cI cJ x y o Rs' → q_V p9 l e9 R s9 m9 args below meth c9 D A 9 Q (80 + i + 1) (6951 + 2 * i + 6) 1304 [(4, .int (nI i)), (3, .ref o), (2, .ref y), (1, .ref x), (0, .ref b)] [] Rs') : q_V p9 l e9 R s9 m9 args below meth c9 D A 9 Q (80 + i) (6951 + 2 * i) 907 [(4, .int (nI i)), (3, .ref o), (2, .ref y), (1, .ref x), (0, .ref b)] [] Rs := by
  have hcI := hI
  have hcG := hG
  have B : R = ({ frames := 12, cells := 601024, slots := 7293034, locals := 454 } : Room) ∧ True := ⟨hR, trivial⟩
  have hts := C.2.2.2.2.1
  obtain ⟨⟨bx, at0, ln, sc⟩, sv, hsn, ⟨sb, sa, sl, ss⟩, ⟨nb, na, nl, ns⟩, tx, fd, g, R1, R2, ⟨aO, aY, aN, aT, aK, aB, aL, aS, naB, naL, naS, kb, ka, wX, wO, wA, wB, wL, wH, vO, vA, vB, vL, wT, wK, rX, ⟨rO, rA, rB, rL⟩, rH, ⟨gO, gA, gB, gL⟩, rT, rK, rfl⟩, ⟨mS, mZ, mV, mN, mU, mD, hh, ⟨zb, za, zl, zs⟩, dx, ps, wP, wQ, wZ, wV, wN, wU, wD, rP, rQ, rZ, rV, rN, rU, rD, rfl⟩, hIv, hIs, q4, q8, hsn6, hl6, rfl⟩ := hRs
  have rO : k_isO cI aO aB aL aS sc wO := rO
  have rA : k_isA cI aS sc wA := rA
  have rB : k_isB cI aB bx at0 wB := rB
  have rL : k_isL cI aL ln wL := rL
  have gO : k_isO cI aN naB naL naS ss vO := gO
  have gA : k_isA cI naS ss vA := gA
  have gB : k_isB cI naB sb sa vB := gB
  have gL : k_isL cI naL sl vL := gL
  have rQ : k_isQ cI mS bx at0 ln sc wQ := rQ
  have rZ : k_isQ cI mZ zb za zl zs wZ := rZ
  have rN : k_isQ cI mN nb na nl ns wN := rN
  have hll : ln.length ≤ 40 := rL.1.1
  have htl : tx.length ≤ 60 := rT.1.1
  obtain ⟨v, hxv⟩ : ∃ v, xs (i + 1) = v := ⟨_, rfl⟩
  obtain ⟨v2, hxv2⟩ : ∃ v2, xs (i + 2) = v2 := ⟨_, rfl⟩
  refine q_eqR (Rs' := [wX, wO, wA, wB, wL, wH, vO, vA, vB, vL, wT, wK, wP, wQ, wZ, wV, wN, wU, wD, [(o, .inl (cJ, 1, .inr (.inl g)))]]) rfl ?_
  by_cases hv : (0 : Int32) ≤ v ∧ v < 12
  · obtain ⟨c, hc, rfl⟩ := k_ex12 hv
    by_cases hv2 : (0 : Int32) ≤ v2
    · obtain ⟨c2, hc2, rfl⟩ := k_exn hv2
      refine q_aload_n C dL_law_907 908 3 rfl rfl ?_
      refine q_aload_n C dL_law_908 909 4 rfl rfl ?_
      refine q_iload C dL_law_909 911 0 rfl rfl ?_
      refine q_iconst (v := nI 1) C dL_law_911 912 rfl (by decide) ?_
      refine q_iadd (v := nI (i + 1)) C dL_law_912 913 rfl (q_nadd (by omega)) ?_
      refine q_sld (v := nI c) C hXb hbl hbA (i + 1) rfl (by omega) (by omega) hxv dL_law_913 914 rfl ?_
      refine q_aload_n C dL_law_914 915 4 rfl rfl ?_
      refine q_iload C dL_law_915 917 0 rfl rfl ?_
      refine q_iconst (v := nI 2) C dL_law_917 918 rfl (by decide) ?_
      refine q_iadd (v := nI (i + 2)) C dL_law_918 919 rfl (q_nadd (by omega)) ?_
      refine q_sld (v := nI c2) C hXb hbl hbA (i + 2) rfl (by omega) (by omega) hxv2 dL_law_919 920 rfl ?_
      refine q_aload_n C dL_law_920 921 1 rfl rfl ?_
      refine q_reord [0, 1, 2, 3, 19, 4, 5, 6, 7, 8, 9, 10, 11, 12, 13, 14, 15, 16, 17, 18] (by decide : ([0, 1, 2, 3, 19, 4, 5, 6, 7, 8, 9, 10, 11, 12, 13, 14, 15, 16, 17, 18] : List Nat).Perm (List.range 20)) (Rs' := [wX, wO, wA, wB, [(o, .inl (cJ, 1, .inr (.inl g)))], wL, wH, vO, vA, vB, vL, wT, wK, wP, wQ, wZ, wV, wN, wU, wD]) rfl rfl ?_
      refine q_resp (Rs' := [[wX, wO, wA, wB].flatten, [(o, .inl (cJ, 1, .inr (.inl g)))], wL, wH, vO, vA, vB, vL, wT, wK, wP, wQ, wZ, wV, wN, wU, wD]) (by simp) ?_
      refine q_callSW (n := 4) (As := [.ref x, .int (nI c), .int (nI c2), .ref o]) (rest := []) (Rr := [wL, wH, vO, vA, vB, vL, wT, wK, wP, wQ, wZ, wV, wN, wU, wD]) C (c_L_type_ok l hZ hJ x o (nI c) (nI c2) (r := k_top bx c c2) (q_hd (k_isX_recv rX)) (q_Cflat (List.append_nil _).symm (c_X6_type_c l hZ hI hN x aO aY aN hsn aT aK wX rX aB aL aS sc wO rO wA rA bx at0 wB rB c c2 (by omega) (by omega))) (Nat.le_of_ble_eq_true rfl) (Nat.le_of_ble_eq_true rfl) rfl rfl (fun _ _ _ h => h.1) g) gL_law_L_type rfl rfl rfl (by decide +kernel) B.1 ⟨Nat.le_of_ble_eq_true rfl, Nat.le_of_ble_eq_true rfl⟩ rfl rfl (Nat.le_of_ble_eq_true rfl) dL_law_921 ⟨(by show (80 + i) + 0 ≤ 601024; omega), (by show (6951 + 2 * i) + 0 ≤ 7293034; omega)⟩ [0, 1] [2, 3, 4, 5, 6, 7, 8, 9, 10, 11, 12, 13, 14, 15, 16] (by decide : ([0, 1] ++ ([2, 3, 4, 5, 6, 7, 8, 9, 10, 11, 12, 13, 14, 15, 16] : List Nat)).Perm (List.range 17)) rfl rfl 924 rfl (fun v0 R0 t0 ht0 hp0 => ?_)
      obtain ⟨rfl, R1, t1, ⟨-, rfl⟩, rfl⟩ := hp0
      refine q_eqs (st' := [.int (nI 0)]) rfl ?_
      refine q_resp (Rs' := [wX, wO, wA, wB, [(o, .inl (cJ, 1, .inr (.inl (va_up g 0 (k_top bx c c2).toInt64))))], wL, wH, vO, vA, vB, vL, wT, wK, wP, wQ, wZ, wV, wN, wU, wD]) (by simp) ?_
      refine q_reord [0, 1, 2, 3, 5, 6, 7, 8, 9, 10, 11, 12, 13, 14, 15, 16, 17, 18, 19, 4] (by decide : ([0, 1, 2, 3, 5, 6, 7, 8, 9, 10, 11, 12, 13, 14, 15, 16, 17, 18, 19, 4] : List Nat).Perm (List.range 20)) (Rs' := [wX, wO, wA, wB, wL, wH, vO, vA, vB, vL, wT, wK, wP, wQ, wZ, wV, wN, wU, wD, [(o, .inl (cJ, 1, .inr (.inl (va_up g 0 (k_top bx c c2).toInt64))))]]) rfl rfl ?_
      refine q_istore C dL_law_924 926 rfl [(5, .int (nI 0)), (4, .int (nI i)), (3, .ref o), (2, .ref y), (1, .ref x), (0, .ref b)] (by decide) rfl ?_
      refine q_aload_n C dL_law_926 927 3 rfl rfl ?_
      refine q_aload_n C dL_law_927 928 5 rfl rfl ?_
      refine q_iload C dL_law_928 930 1 rfl rfl ?_
      refine q_iconst (v := nI 1) C dL_law_930 931 rfl (by decide) ?_
      refine q_iadd (v := nI (i + 1)) C dL_law_931 932 rfl (q_nadd (by omega)) ?_
      refine q_sld (v := nI c) C hXb hbl hbA (i + 1) rfl (by omega) (by omega) hxv dL_law_932 933 rfl ?_
      refine q_aload_n C dL_law_933 934 5 rfl rfl ?_
      refine q_iload C dL_law_934 936 1 rfl rfl ?_
      refine q_iconst (v := nI 2) C dL_law_936 937 rfl (by decide) ?_
      refine q_iadd (v := nI (i + 2)) C dL_law_937 938 rfl (q_nadd (by omega)) ?_
      refine q_sld (v := nI c2) C hXb hbl hbA (i + 2) rfl (by omega) (by omega) hxv2 dL_law_938 939 rfl ?_
      refine q_callV (k := 12) (ci := 6) (n := 2) (rest := []) (Rr := [wX, wO, wA, wB, wL, wH, vO, vA, vB, vL, wT, wK, wZ, wV, wN, wU, wD, [(o, .inl (cJ, 1, .inr (.inl (va_up g 0 (k_top bx c c2).toInt64))))]]) C rfl (k_isP_recv rP) rfl (c_X7_type_c l hZ hI y mS mZ mV mN mU mD fd hh wP rP bx at0 ln sc wQ rQ c c2 (by omega) (by omega)) gL_law_X7_type rfl rfl rfl (by decide +kernel) B.1 ⟨Nat.le_of_ble_eq_true rfl, Nat.le_of_ble_eq_true rfl⟩ rfl rfl (Nat.le_of_ble_eq_true rfl) dL_law_939 ⟨(by show ((80 + i) + 0) + 0 ≤ 601024; omega), (by show ((6951 + 2 * i) + 0) + 0 ≤ 7293034; omega)⟩ [12, 13] [0, 1, 2, 3, 4, 5, 6, 7, 8, 9, 10, 11, 14, 15, 16, 17, 18, 19] (by decide : ([12, 13] ++ ([0, 1, 2, 3, 4, 5, 6, 7, 8, 9, 10, 11, 14, 15, 16, 17, 18, 19] : List Nat)).Perm (List.range 20)) rfl rfl 942 rfl (fun v0 R0 t0 ht0 hp0 => ?_)
      obtain ⟨rfl, wP_939, hwP_939, rfl⟩ := hp0
      refine q_eqs (st' := [.int (k_top bx c c2)]) rfl ?_
      refine q_reord [2, 3, 4, 5, 6, 7, 8, 9, 10, 11, 12, 13, 0, 1, 14, 15, 16, 17, 18, 19] (by decide : ([2, 3, 4, 5, 6, 7, 8, 9, 10, 11, 12, 13, 0, 1, 14, 15, 16, 17, 18, 19] : List Nat).Perm (List.range 20)) (Rs' := [wX, wO, wA, wB, wL, wH, vO, vA, vB, vL, wT, wK, wP_939, wQ, wZ, wV, wN, wU, wD, [(o, .inl (cJ, 1, .inr (.inl (va_up g 0 (k_top bx c c2).toInt64))))]]) rfl rfl ?_
      refine q_istore C dL_law_942 944 rfl [(6, .int (k_top bx c c2)), (5, .int (nI 0)), (4, .int (nI i)), (3, .ref o), (2, .ref y), (1, .ref x), (0, .ref b)] (by decide) rfl ?_
      refine q_aload_n C dL_law_944 945 4 rfl rfl ?_
      refine q_callV (k := 12) (ci := 6) (n := 0) (rest := []) (Rr := [wX, wO, wA, wB, wL, wH, vO, vA, vB, vL, wT, wK, wQ, wZ, wV, wN, wU, wD, [(o, .inl (cJ, 1, .inr (.inl (va_up g 0 (k_top bx c c2).toInt64))))]]) C rfl (k_isP_recv hwP_939) rfl (c_X7_thrown l hZ hI y mS mZ mV mN mU mD (upd fd 0 (nI 0)) hh wP_939 hwP_939) gL_law_X7_thrown rfl rfl rfl (by decide +kernel) B.1 ⟨Nat.le_of_ble_eq_true rfl, Nat.le_of_ble_eq_true rfl⟩ rfl rfl (Nat.le_of_ble_eq_true rfl) dL_law_945 ⟨(by show ((80 + i) + 0) + 0 ≤ 601024; omega), (by show ((6951 + 2 * i) + 0) + 0 ≤ 7293034; omega)⟩ [12] [0, 1, 2, 3, 4, 5, 6, 7, 8, 9, 10, 11, 13, 14, 15, 16, 17, 18, 19] (by decide : ([12] ++ ([0, 1, 2, 3, 4, 5, 6, 7, 8, 9, 10, 11, 13, 14, 15, 16, 17, 18, 19] : List Nat)).Perm (List.range 20)) rfl rfl 948 rfl (fun v0 R0 t0 ht0 hp0 => ?_)
      obtain ⟨rfl, rfl⟩ := hp0
      refine q_eqs (st' := [.int ((upd fd 0 (nI 0)) 0)]) rfl ?_
      refine q_reord [1, 2, 3, 4, 5, 6, 7, 8, 9, 10, 11, 12, 0, 13, 14, 15, 16, 17, 18, 19] (by decide : ([1, 2, 3, 4, 5, 6, 7, 8, 9, 10, 11, 12, 0, 13, 14, 15, 16, 17, 18, 19] : List Nat).Perm (List.range 20)) (Rs' := [wX, wO, wA, wB, wL, wH, vO, vA, vB, vL, wT, wK, wP_939, wQ, wZ, wV, wN, wU, wD, [(o, .inl (cJ, 1, .inr (.inl (va_up g 0 (k_top bx c c2).toInt64))))]]) rfl rfl ?_
      refine q_eqs (st' := [.int (nI 0)]) (by rw [pk_us]) ?_
      refine q_iload C dL_law_948 950 1 rfl rfl ?_
      refine q_icmp_eq C dL_law_950 953 955 rfl (by decide) (nI_eq (by omega) (by omega)) (fun h950 => ?_) (fun h950 => False.elim (by first | omega | simp_all))
      refine q_iload C dL_law_955 957 1 rfl rfl ?_
      refine q_if_ne C dL_law_957 960 972 rfl (by decide) (q_eq0 (by omega)) (fun h957 => False.elim (by first | omega | simp_all)) (fun h957 => ?_)
      refine q_aload_n C dL_law_960 961 3 rfl rfl ?_
      refine q_iconst (v := nI 0) C dL_law_961 962 rfl (by decide) ?_
      refine q_lald (k := 19) (j := 0) (v := (k_top bx c c2).toInt64) C dL_law_962 963 rfl rfl rfl hJ 0 rfl (by decide) (by decide) k_up_s ?_
      refine q_iload C dL_law_963 965 0 rfl rfl ?_
      refine q_i2l (v := ((k_top bx c c2) : Int32).toInt64) C dL_law_965 966 rfl rfl ?_
      refine q_lcmp C dL_law_966 967 rfl ?_
      refine q_if_eq C dL_law_967 970 972 rfl (by decide) Iff.rfl (fun h967 => ?_) (fun h967 => False.elim (h967 (lg_self _)))
      refine q_goto C dL_law_972 1304 (by decide) ?_
      refine q_sub (L' := [(4, .int (nI i)), (3, .ref o), (2, .ref y), (1, .ref x), (0, .ref b)]) [2, 3, 4, 5, 6] rfl ?_
      refine q_widen (k := 80 + i + 1) (n := 6951 + 2 * i + 6) (by omega) (by omega) ?_
      exact kk _ ⟨(bx, at0, ln, sc), sv, hsn, (sb, sa, sl, ss), (nb, na, nl, ns), tx, upd fd 0 (nI 0), va_up g 0 (k_top bx c c2).toInt64, _, _, ⟨_, _, _, _, _, _, _, _, _, _, _, _, _, _, _, _, _, _, _, _, _, _, _, _, _, rX, ⟨rO, rA, rB, rL⟩, rH, ⟨gO, gA, gB, gL⟩, rT, rK, rfl⟩, ⟨_, _, _, _, _, _, _, (zb, za, zl, zs), _, _, _, _, _, _, _, _, _, hwP_939, rQ, rZ, rV, rN, rU, rD, rfl⟩, hIv, hIs, (by rw [pk_un (by decide)]; exact q4), (by rw [pk_un (by decide)]; exact q8), (k_Sn_eq hsn6 (by rw [pk_un (by decide)])), hl6, rfl⟩
      
    · refine q_aload_n C dL_law_907 908 3 rfl rfl ?_
      refine q_aload_n C dL_law_908 909 4 rfl rfl ?_
      refine q_iload C dL_law_909 911 0 rfl rfl ?_
      refine q_iconst (v := nI 1) C dL_law_911 912 rfl (by decide) ?_
      refine q_iadd (v := nI (i + 1)) C dL_law_912 913 rfl (q_nadd (by omega)) ?_
      refine q_sld (v := nI c) C hXb hbl hbA (i + 1) rfl (by omega) (by omega) hxv dL_law_913 914 rfl ?_
      refine q_aload_n C dL_law_914 915 4 rfl rfl ?_
      refine q_iload C dL_law_915 917 0 rfl rfl ?_
      refine q_iconst (v := nI 2) C dL_law_917 918 rfl (by decide) ?_
      refine q_iadd (v := nI (i + 2)) C dL_law_918 919 rfl (q_nadd (by omega)) ?_
      refine q_sld (v := v2) C hXb hbl hbA (i + 2) rfl (by omega) (by omega) hxv2 dL_law_919 920 rfl ?_
      refine q_aload_n C dL_law_920 921 1 rfl rfl ?_
      refine q_reord [0, 19, 1, 2, 3, 4, 5, 6, 7, 8, 9, 10, 11, 12, 13, 14, 15, 16, 17, 18] (by decide : ([0, 19, 1, 2, 3, 4, 5, 6, 7, 8, 9, 10, 11, 12, 13, 14, 15, 16, 17, 18] : List Nat).Perm (List.range 20)) (Rs' := [wX, [(o, .inl (cJ, 1, .inr (.inl g)))], wO, wA, wB, wL, wH, vO, vA, vB, vL, wT, wK, wP, wQ, wZ, wV, wN, wU, wD]) rfl rfl ?_
      refine q_resp (Rs' := [[wX].flatten, [(o, .inl (cJ, 1, .inr (.inl g)))], wO, wA, wB, wL, wH, vO, vA, vB, vL, wT, wK, wP, wQ, wZ, wV, wN, wU, wD]) (by simp) ?_
      refine q_callSW (n := 4) (As := [.ref x, .int (nI c), .int v2, .ref o]) (rest := []) (Rr := [wO, wA, wB, wL, wH, vO, vA, vB, vL, wT, wK, wP, wQ, wZ, wV, wN, wU, wD]) C (c_L_type_x2 l hZ hJ hXs x o (nI c) v2 (q_hd (k_isX_recv rX)) (q_Xflat (List.append_nil _).symm (c_X6_type_b l hZ hI hN hXs hlT x aO aY aN hsn aT aK wX rX c v2 (by omega) hv2)) (Nat.le_of_ble_eq_true rfl) (Nat.le_of_ble_eq_true rfl) rfl rfl g) gL_law_L_type rfl rfl rfl (by decide +kernel) B.1 ⟨Nat.le_of_ble_eq_true rfl, Nat.le_of_ble_eq_true rfl⟩ rfl rfl (Nat.le_of_ble_eq_true rfl) dL_law_921 ⟨(by show (80 + i) + 1 ≤ 601024; omega), (by show (6951 + 2 * i) + 6 ≤ 7293034; omega)⟩ [0, 1] [2, 3, 4, 5, 6, 7, 8, 9, 10, 11, 12, 13, 14, 15, 16, 17, 18, 19] (by decide : ([0, 1] ++ ([2, 3, 4, 5, 6, 7, 8, 9, 10, 11, 12, 13, 14, 15, 16, 17, 18, 19] : List Nat)).Perm (List.range 20)) rfl rfl 924 rfl (fun v0 R0 t0 ht0 hp0 => ?_)
      obtain ⟨rfl, rfl⟩ := hp0
      refine q_eqs (st' := [.int (nI 2)]) rfl ?_
      refine q_resp (Rs' := [wX, [(o, .inl (cJ, 1, .inr (.inl g)))], wO, wA, wB, wL, wH, vO, vA, vB, vL, wT, wK, wP, wQ, wZ, wV, wN, wU, wD]) (by simp) ?_
      refine q_reord [0, 2, 3, 4, 5, 6, 7, 8, 9, 10, 11, 12, 13, 14, 15, 16, 17, 18, 19, 1] (by decide : ([0, 2, 3, 4, 5, 6, 7, 8, 9, 10, 11, 12, 13, 14, 15, 16, 17, 18, 19, 1] : List Nat).Perm (List.range 20)) (Rs' := [wX, wO, wA, wB, wL, wH, vO, vA, vB, vL, wT, wK, wP, wQ, wZ, wV, wN, wU, wD, [(o, .inl (cJ, 1, .inr (.inl g)))]]) rfl rfl ?_
      refine q_istore C dL_law_924 926 rfl [(5, .int (nI 2)), (4, .int (nI i)), (3, .ref o), (2, .ref y), (1, .ref x), (0, .ref b)] (by decide) rfl ?_
      refine q_aload_n C dL_law_926 927 3 rfl rfl ?_
      refine q_aload_n C dL_law_927 928 5 rfl rfl ?_
      refine q_iload C dL_law_928 930 1 rfl rfl ?_
      refine q_iconst (v := nI 1) C dL_law_930 931 rfl (by decide) ?_
      refine q_iadd (v := nI (i + 1)) C dL_law_931 932 rfl (q_nadd (by omega)) ?_
      refine q_sld (v := nI c) C hXb hbl hbA (i + 1) rfl (by omega) (by omega) hxv dL_law_932 933 rfl ?_
      refine q_aload_n C dL_law_933 934 5 rfl rfl ?_
      refine q_iload C dL_law_934 936 1 rfl rfl ?_
      refine q_iconst (v := nI 2) C dL_law_936 937 rfl (by decide) ?_
      refine q_iadd (v := nI (i + 2)) C dL_law_937 938 rfl (q_nadd (by omega)) ?_
      refine q_sld (v := v2) C hXb hbl hbA (i + 2) rfl (by omega) (by omega) hxv2 dL_law_938 939 rfl ?_
      refine q_callV (k := 12) (ci := 6) (n := 2) (rest := []) (Rr := [wX, wO, wA, wB, wL, wH, vO, vA, vB, vL, wT, wK, wQ, wZ, wV, wN, wU, wD, [(o, .inl (cJ, 1, .inr (.inl g)))]]) C rfl (k_isP_recv rP) rfl (c_X7_type_b l hZ hI y mS mZ mV mN mU mD fd hh wP rP c v2 (by omega) hv2) gL_law_X7_type rfl rfl rfl (by decide +kernel) B.1 ⟨Nat.le_of_ble_eq_true rfl, Nat.le_of_ble_eq_true rfl⟩ rfl rfl (Nat.le_of_ble_eq_true rfl) dL_law_939 ⟨(by show ((80 + i) + 1) + 0 ≤ 601024; omega), (by show ((6951 + 2 * i) + 6) + 0 ≤ 7293034; omega)⟩ [12] [0, 1, 2, 3, 4, 5, 6, 7, 8, 9, 10, 11, 13, 14, 15, 16, 17, 18, 19] (by decide : ([12] ++ ([0, 1, 2, 3, 4, 5, 6, 7, 8, 9, 10, 11, 13, 14, 15, 16, 17, 18, 19] : List Nat)).Perm (List.range 20)) rfl rfl 942 rfl (fun v0 R0 t0 ht0 hp0 => ?_)
      obtain ⟨rfl, w_939, hw_939, rfl⟩ := hp0
      refine q_eqs (st' := [.int (nI 0)]) rfl ?_
      refine q_reord [1, 2, 3, 4, 5, 6, 7, 8, 9, 10, 11, 12, 0, 13, 14, 15, 16, 17, 18, 19] (by decide : ([1, 2, 3, 4, 5, 6, 7, 8, 9, 10, 11, 12, 0, 13, 14, 15, 16, 17, 18, 19] : List Nat).Perm (List.range 20)) (Rs' := [wX, wO, wA, wB, wL, wH, vO, vA, vB, vL, wT, wK, w_939, wQ, wZ, wV, wN, wU, wD, [(o, .inl (cJ, 1, .inr (.inl g)))]]) rfl rfl ?_
      refine q_istore C dL_law_942 944 rfl [(6, .int (nI 0)), (5, .int (nI 2)), (4, .int (nI i)), (3, .ref o), (2, .ref y), (1, .ref x), (0, .ref b)] (by decide) rfl ?_
      refine q_aload_n C dL_law_944 945 4 rfl rfl ?_
      refine q_callV (k := 12) (ci := 6) (n := 0) (rest := []) (Rr := [wX, wO, wA, wB, wL, wH, vO, vA, vB, vL, wT, wK, wQ, wZ, wV, wN, wU, wD, [(o, .inl (cJ, 1, .inr (.inl g)))]]) C rfl (k_isP_recv hw_939) rfl (c_X7_thrown l hZ hI y mS mZ mV mN mU mD (upd (upd fd 0 (nI 0)) 0 (nI 2)) hh w_939 hw_939) gL_law_X7_thrown rfl rfl rfl (by decide +kernel) B.1 ⟨Nat.le_of_ble_eq_true rfl, Nat.le_of_ble_eq_true rfl⟩ rfl rfl (Nat.le_of_ble_eq_true rfl) dL_law_945 ⟨(by show ((80 + i) + 1) + 0 ≤ 601024; omega), (by show ((6951 + 2 * i) + 6) + 0 ≤ 7293034; omega)⟩ [12] [0, 1, 2, 3, 4, 5, 6, 7, 8, 9, 10, 11, 13, 14, 15, 16, 17, 18, 19] (by decide : ([12] ++ ([0, 1, 2, 3, 4, 5, 6, 7, 8, 9, 10, 11, 13, 14, 15, 16, 17, 18, 19] : List Nat)).Perm (List.range 20)) rfl rfl 948 rfl (fun v0 R0 t0 ht0 hp0 => ?_)
      obtain ⟨rfl, rfl⟩ := hp0
      refine q_eqs (st' := [.int ((upd (upd fd 0 (nI 0)) 0 (nI 2)) 0)]) rfl ?_
      refine q_reord [1, 2, 3, 4, 5, 6, 7, 8, 9, 10, 11, 12, 0, 13, 14, 15, 16, 17, 18, 19] (by decide : ([1, 2, 3, 4, 5, 6, 7, 8, 9, 10, 11, 12, 0, 13, 14, 15, 16, 17, 18, 19] : List Nat).Perm (List.range 20)) (Rs' := [wX, wO, wA, wB, wL, wH, vO, vA, vB, vL, wT, wK, w_939, wQ, wZ, wV, wN, wU, wD, [(o, .inl (cJ, 1, .inr (.inl g)))]]) rfl rfl ?_
      refine q_eqs (st' := [.int (nI 2)]) (by rw [pk_us]) ?_
      refine q_iload C dL_law_948 950 1 rfl rfl ?_
      refine q_icmp_eq C dL_law_950 953 955 rfl (by decide) (nI_eq (by omega) (by omega)) (fun h950 => ?_) (fun h950 => False.elim (by first | omega | simp_all))
      refine q_iload C dL_law_955 957 1 rfl rfl ?_
      refine q_if_ne C dL_law_957 960 972 rfl (by decide) (q_eq0 (by omega)) (fun h957 => ?_) (fun h957 => False.elim (by first | omega | simp_all))
      refine q_goto C dL_law_972 1304 (by decide) ?_
      refine q_sub (L' := [(4, .int (nI i)), (3, .ref o), (2, .ref y), (1, .ref x), (0, .ref b)]) [2, 3, 4, 5, 6] rfl ?_
      refine q_widen (k := 80 + i + 1) (n := 6951 + 2 * i + 6) (by omega) (by omega) ?_
      exact kk _ ⟨(bx, at0, ln, sc), sv, hsn, (sb, sa, sl, ss), (nb, na, nl, ns), tx, upd (upd fd 0 (nI 0)) 0 (nI 2), g, _, _, ⟨_, _, _, _, _, _, _, _, _, _, _, _, _, _, _, _, _, _, _, _, _, _, _, _, _, rX, ⟨rO, rA, rB, rL⟩, rH, ⟨gO, gA, gB, gL⟩, rT, rK, rfl⟩, ⟨_, _, _, _, _, _, _, (zb, za, zl, zs), _, _, _, _, _, _, _, _, _, hw_939, rQ, rZ, rV, rN, rU, rD, rfl⟩, hIv, hIs, (by rw [pk_un (by decide), pk_un (by decide)]; exact q4), (by rw [pk_un (by decide), pk_un (by decide)]; exact q8), (k_Sn_eq hsn6 (by rw [pk_un (by decide), pk_un (by decide)])), hl6, rfl⟩
      
  · refine q_aload_n C dL_law_907 908 3 rfl rfl ?_
    refine q_aload_n C dL_law_908 909 4 rfl rfl ?_
    refine q_iload C dL_law_909 911 0 rfl rfl ?_
    refine q_iconst (v := nI 1) C dL_law_911 912 rfl (by decide) ?_
    refine q_iadd (v := nI (i + 1)) C dL_law_912 913 rfl (q_nadd (by omega)) ?_
    refine q_sld (v := v) C hXb hbl hbA (i + 1) rfl (by omega) (by omega) hxv dL_law_913 914 rfl ?_
    refine q_aload_n C dL_law_914 915 4 rfl rfl ?_
    refine q_iload C dL_law_915 917 0 rfl rfl ?_
    refine q_iconst (v := nI 2) C dL_law_917 918 rfl (by decide) ?_
    refine q_iadd (v := nI (i + 2)) C dL_law_918 919 rfl (q_nadd (by omega)) ?_
    refine q_sld (v := v2) C hXb hbl hbA (i + 2) rfl (by omega) (by omega) hxv2 dL_law_919 920 rfl ?_
    refine q_aload_n C dL_law_920 921 1 rfl rfl ?_
    refine q_reord [0, 19, 1, 2, 3, 4, 5, 6, 7, 8, 9, 10, 11, 12, 13, 14, 15, 16, 17, 18] (by decide : ([0, 19, 1, 2, 3, 4, 5, 6, 7, 8, 9, 10, 11, 12, 13, 14, 15, 16, 17, 18] : List Nat).Perm (List.range 20)) (Rs' := [wX, [(o, .inl (cJ, 1, .inr (.inl g)))], wO, wA, wB, wL, wH, vO, vA, vB, vL, wT, wK, wP, wQ, wZ, wV, wN, wU, wD]) rfl rfl ?_
    refine q_resp (Rs' := [[wX].flatten, [(o, .inl (cJ, 1, .inr (.inl g)))], wO, wA, wB, wL, wH, vO, vA, vB, vL, wT, wK, wP, wQ, wZ, wV, wN, wU, wD]) (by simp) ?_
    refine q_callSW (n := 4) (As := [.ref x, .int v, .int v2, .ref o]) (rest := []) (Rr := [wO, wA, wB, wL, wH, vO, vA, vB, vL, wT, wK, wP, wQ, wZ, wV, wN, wU, wD]) C (c_L_type_x1 l hZ hJ hXs x o v v2 (q_hd (k_isX_recv rX)) (q_Xflat (List.append_nil _).symm (c_X6_type_a l hZ hI hN hXs hlT x aO aY aN hsn aT aK wX rX v v2 hv)) (Nat.le_of_ble_eq_true rfl) (Nat.le_of_ble_eq_true rfl) rfl rfl g) gL_law_L_type rfl rfl rfl (by decide +kernel) B.1 ⟨Nat.le_of_ble_eq_true rfl, Nat.le_of_ble_eq_true rfl⟩ rfl rfl (Nat.le_of_ble_eq_true rfl) dL_law_921 ⟨(by show (80 + i) + 1 ≤ 601024; omega), (by show (6951 + 2 * i) + 6 ≤ 7293034; omega)⟩ [0, 1] [2, 3, 4, 5, 6, 7, 8, 9, 10, 11, 12, 13, 14, 15, 16, 17, 18, 19] (by decide : ([0, 1] ++ ([2, 3, 4, 5, 6, 7, 8, 9, 10, 11, 12, 13, 14, 15, 16, 17, 18, 19] : List Nat)).Perm (List.range 20)) rfl rfl 924 rfl (fun v0 R0 t0 ht0 hp0 => ?_)
    obtain ⟨rfl, rfl⟩ := hp0
    refine q_eqs (st' := [.int (nI 1)]) rfl ?_
    refine q_resp (Rs' := [wX, [(o, .inl (cJ, 1, .inr (.inl g)))], wO, wA, wB, wL, wH, vO, vA, vB, vL, wT, wK, wP, wQ, wZ, wV, wN, wU, wD]) (by simp) ?_
    refine q_reord [0, 2, 3, 4, 5, 6, 7, 8, 9, 10, 11, 12, 13, 14, 15, 16, 17, 18, 19, 1] (by decide : ([0, 2, 3, 4, 5, 6, 7, 8, 9, 10, 11, 12, 13, 14, 15, 16, 17, 18, 19, 1] : List Nat).Perm (List.range 20)) (Rs' := [wX, wO, wA, wB, wL, wH, vO, vA, vB, vL, wT, wK, wP, wQ, wZ, wV, wN, wU, wD, [(o, .inl (cJ, 1, .inr (.inl g)))]]) rfl rfl ?_
    refine q_istore C dL_law_924 926 rfl [(5, .int (nI 1)), (4, .int (nI i)), (3, .ref o), (2, .ref y), (1, .ref x), (0, .ref b)] (by decide) rfl ?_
    refine q_aload_n C dL_law_926 927 3 rfl rfl ?_
    refine q_aload_n C dL_law_927 928 5 rfl rfl ?_
    refine q_iload C dL_law_928 930 1 rfl rfl ?_
    refine q_iconst (v := nI 1) C dL_law_930 931 rfl (by decide) ?_
    refine q_iadd (v := nI (i + 1)) C dL_law_931 932 rfl (q_nadd (by omega)) ?_
    refine q_sld (v := v) C hXb hbl hbA (i + 1) rfl (by omega) (by omega) hxv dL_law_932 933 rfl ?_
    refine q_aload_n C dL_law_933 934 5 rfl rfl ?_
    refine q_iload C dL_law_934 936 1 rfl rfl ?_
    refine q_iconst (v := nI 2) C dL_law_936 937 rfl (by decide) ?_
    refine q_iadd (v := nI (i + 2)) C dL_law_937 938 rfl (q_nadd (by omega)) ?_
    refine q_sld (v := v2) C hXb hbl hbA (i + 2) rfl (by omega) (by omega) hxv2 dL_law_938 939 rfl ?_
    refine q_callV (k := 12) (ci := 6) (n := 2) (rest := []) (Rr := [wX, wO, wA, wB, wL, wH, vO, vA, vB, vL, wT, wK, wQ, wZ, wV, wN, wU, wD, [(o, .inl (cJ, 1, .inr (.inl g)))]]) C rfl (k_isP_recv rP) rfl (c_X7_type_a l hZ hI y mS mZ mV mN mU mD fd hh wP rP v v2 (k_nb12 hv)) gL_law_X7_type rfl rfl rfl (by decide +kernel) B.1 ⟨Nat.le_of_ble_eq_true rfl, Nat.le_of_ble_eq_true rfl⟩ rfl rfl (Nat.le_of_ble_eq_true rfl) dL_law_939 ⟨(by show ((80 + i) + 1) + 0 ≤ 601024; omega), (by show ((6951 + 2 * i) + 6) + 0 ≤ 7293034; omega)⟩ [12] [0, 1, 2, 3, 4, 5, 6, 7, 8, 9, 10, 11, 13, 14, 15, 16, 17, 18, 19] (by decide : ([12] ++ ([0, 1, 2, 3, 4, 5, 6, 7, 8, 9, 10, 11, 13, 14, 15, 16, 17, 18, 19] : List Nat)).Perm (List.range 20)) rfl rfl 942 rfl (fun v0 R0 t0 ht0 hp0 => ?_)
    obtain ⟨rfl, w_939, hw_939, rfl⟩ := hp0
    refine q_eqs (st' := [.int (nI 0)]) rfl ?_
    refine q_reord [1, 2, 3, 4, 5, 6, 7, 8, 9, 10, 11, 12, 0, 13, 14, 15, 16, 17, 18, 19] (by decide : ([1, 2, 3, 4, 5, 6, 7, 8, 9, 10, 11, 12, 0, 13, 14, 15, 16, 17, 18, 19] : List Nat).Perm (List.range 20)) (Rs' := [wX, wO, wA, wB, wL, wH, vO, vA, vB, vL, wT, wK, w_939, wQ, wZ, wV, wN, wU, wD, [(o, .inl (cJ, 1, .inr (.inl g)))]]) rfl rfl ?_
    refine q_istore C dL_law_942 944 rfl [(6, .int (nI 0)), (5, .int (nI 1)), (4, .int (nI i)), (3, .ref o), (2, .ref y), (1, .ref x), (0, .ref b)] (by decide) rfl ?_
    refine q_aload_n C dL_law_944 945 4 rfl rfl ?_
    refine q_callV (k := 12) (ci := 6) (n := 0) (rest := []) (Rr := [wX, wO, wA, wB, wL, wH, vO, vA, vB, vL, wT, wK, wQ, wZ, wV, wN, wU, wD, [(o, .inl (cJ, 1, .inr (.inl g)))]]) C rfl (k_isP_recv hw_939) rfl (c_X7_thrown l hZ hI y mS mZ mV mN mU mD (upd (upd fd 0 (nI 0)) 0 (nI 1)) hh w_939 hw_939) gL_law_X7_thrown rfl rfl rfl (by decide +kernel) B.1 ⟨Nat.le_of_ble_eq_true rfl, Nat.le_of_ble_eq_true rfl⟩ rfl rfl (Nat.le_of_ble_eq_true rfl) dL_law_945 ⟨(by show ((80 + i) + 1) + 0 ≤ 601024; omega), (by show ((6951 + 2 * i) + 6) + 0 ≤ 7293034; omega)⟩ [12] [0, 1, 2, 3, 4, 5, 6, 7, 8, 9, 10, 11, 13, 14, 15, 16, 17, 18, 19] (by decide : ([12] ++ ([0, 1, 2, 3, 4, 5, 6, 7, 8, 9, 10, 11, 13, 14, 15, 16, 17, 18, 19] : List Nat)).Perm (List.range 20)) rfl rfl 948 rfl (fun v0 R0 t0 ht0 hp0 => ?_)
    obtain ⟨rfl, rfl⟩ := hp0
    refine q_eqs (st' := [.int ((upd (upd fd 0 (nI 0)) 0 (nI 1)) 0)]) rfl ?_
    refine q_reord [1, 2, 3, 4, 5, 6, 7, 8, 9, 10, 11, 12, 0, 13, 14, 15, 16, 17, 18, 19] (by decide : ([1, 2, 3, 4, 5, 6, 7, 8, 9, 10, 11, 12, 0, 13, 14, 15, 16, 17, 18, 19] : List Nat).Perm (List.range 20)) (Rs' := [wX, wO, wA, wB, wL, wH, vO, vA, vB, vL, wT, wK, w_939, wQ, wZ, wV, wN, wU, wD, [(o, .inl (cJ, 1, .inr (.inl g)))]]) rfl rfl ?_
    refine q_eqs (st' := [.int (nI 1)]) (by rw [pk_us]) ?_
    refine q_iload C dL_law_948 950 1 rfl rfl ?_
    refine q_icmp_eq C dL_law_950 953 955 rfl (by decide) (nI_eq (by omega) (by omega)) (fun h950 => ?_) (fun h950 => False.elim (by first | omega | simp_all))
    refine q_iload C dL_law_955 957 1 rfl rfl ?_
    refine q_if_ne C dL_law_957 960 972 rfl (by decide) (q_eq0 (by omega)) (fun h957 => ?_) (fun h957 => False.elim (by first | omega | simp_all))
    refine q_goto C dL_law_972 1304 (by decide) ?_
    refine q_sub (L' := [(4, .int (nI i)), (3, .ref o), (2, .ref y), (1, .ref x), (0, .ref b)]) [2, 3, 4, 5, 6] rfl ?_
    refine q_widen (k := 80 + i + 1) (n := 6951 + 2 * i + 6) (by omega) (by omega) ?_
    exact kk _ ⟨(bx, at0, ln, sc), sv, hsn, (sb, sa, sl, ss), (nb, na, nl, ns), tx, upd (upd fd 0 (nI 0)) 0 (nI 1), g, _, _, ⟨_, _, _, _, _, _, _, _, _, _, _, _, _, _, _, _, _, _, _, _, _, _, _, _, _, rX, ⟨rO, rA, rB, rL⟩, rH, ⟨gO, gA, gB, gL⟩, rT, rK, rfl⟩, ⟨_, _, _, _, _, _, _, (zb, za, zl, zs), _, _, _, _, _, _, _, _, _, hw_939, rQ, rZ, rV, rN, rU, rD, rfl⟩, hIv, hIs, (by rw [pk_un (by decide), pk_un (by decide)]; exact q4), (by rw [pk_un (by decide), pk_un (by decide)]; exact q8), (k_Sn_eq hsn6 (by rw [pk_un (by decide), pk_un (by decide)])), hl6, rfl⟩
    

set_option maxHeartbeats 1000000 in
set_option maxRecDepth 100000 in
theorem law_c17 {p9 : Program} {l : Launch} {e9 : Env} {R : Room} {s9 : State} {m9 : MethodId} {args : Array Value} {below : List Frame} {meth : Method} {c9 : Code} {Q : State → Prop} {D : va_G} {tys : List (ClassId × FieldType)} {A : Nat → Prop} {Z : (Nat → Prop) → State → Heap → Prop} {b LL : Nat} {xs : Nat → Int32} {x y o i : Nat} {Rs : List va_W} (C : q_C p9 s9 m9 args c9 cL_law 9 wsL_law RL D tys Z A) (hZ : q_St Z) {cI cG cJ : ClassId} (hI : tys[0]? = some (cI, .int)) (hG : tys[1]? = some (cG, .object "SortCases$State")) (hJ : tys[2]? = some (cJ, .long)) (hN : q_Ns Z) {ad aw av : Nat → Nat} {tK : Nat} (hKs : q_Ks Z ad aw av tK) {tL tH : Nat} (hVs : q_Vs Z tL tH) (hXs : q_Xs Z) (hlT : l.stackTraces = false) (hXb : va_X b LL xs s9 s9.heap) (hbl : b < s9.heap.size) (hbA : ¬ A b) (hR : R = ({ frames := 12, cells := 601024, slots := 7293034, locals := 454 } : Room)) (hi : i + 3 ≤ LL) (hL : LL ≤ 1536) (hRs : law_I cG cI cJ x y o Rs) (kk : ∀ Rs', law_I cG cI cJ x y o Rs' → q_V p9 l e9 R s9 m9 args below meth c9 D A 9 Q (80 + i + 1) (6951 + 2 * i + 6) 1304 [(4, .int (nI i)), (3, .ref o), (2, .ref y), (1, .ref x), (0, .ref b)] [] Rs') : q_V p9 l e9 R s9 m9 args below meth c9 D A 9 Q (80 + i) (6951 + 2 * i) 975 [(4, .int (nI i)), (3, .ref o), (2, .ref y), (1, .ref x), (0, .ref b)] [] Rs := by
  have hcI := hI
  have hcG := hG
  have B : R = ({ frames := 12, cells := 601024, slots := 7293034, locals := 454 } : Room) ∧ True := ⟨hR, trivial⟩
  have hts := C.2.2.2.2.1
  obtain ⟨⟨bx, at0, ln, sc⟩, sv, hsn, ⟨sb, sa, sl, ss⟩, ⟨nb, na, nl, ns⟩, tx, fd, g, R1, R2, ⟨aO, aY, aN, aT, aK, aB, aL, aS, naB, naL, naS, kb, ka, wX, wO, wA, wB, wL, wH, vO, vA, vB, vL, wT, wK, rX, ⟨rO, rA, rB, rL⟩, rH, ⟨gO, gA, gB, gL⟩, rT, rK, rfl⟩, ⟨mS, mZ, mV, mN, mU, mD, hh, ⟨zb, za, zl, zs⟩, dx, ps, wP, wQ, wZ, wV, wN, wU, wD, rP, rQ, rZ, rV, rN, rU, rD, rfl⟩, hIv, hIs, q4, q8, hsn6, hl6, rfl⟩ := hRs
  have rO : k_isO cI aO aB aL aS sc wO := rO
  have rA : k_isA cI aS sc wA := rA
  have rB : k_isB cI aB bx at0 wB := rB
  have rL : k_isL cI aL ln wL := rL
  have gO : k_isO cI aN naB naL naS ss vO := gO
  have gA : k_isA cI naS ss vA := gA
  have gB : k_isB cI naB sb sa vB := gB
  have gL : k_isL cI naL sl vL := gL
  have rQ : k_isQ cI mS bx at0 ln sc wQ := rQ
  have rZ : k_isQ cI mZ zb za zl zs wZ := rZ
  have rN : k_isQ cI mN nb na nl ns wN := rN
  have hll : ln.length ≤ 40 := rL.1.1
  have htl : tx.length ≤ 60 := rT.1.1
  obtain ⟨v, hxv⟩ : ∃ v, xs (i + 1) = v := ⟨_, rfl⟩
  obtain ⟨v2, hxv2⟩ : ∃ v2, xs (i + 2) = v2 := ⟨_, rfl⟩
  refine q_eqR (Rs' := [wX, wO, wA, wB, wL, wH, vO, vA, vB, vL, wT, wK, wP, wQ, wZ, wV, wN, wU, wD, [(o, .inl (cJ, 1, .inr (.inl g)))]]) rfl ?_
  by_cases hv : k_has ln v = true
  · obtain ⟨c, hc, rfl⟩ := k_exk (by omega) hv
    by_cases hv2 : nI 0 ≤ v2 ∧ v2 ≤ nI 3
    · obtain ⟨c2, hc2, rfl⟩ := k_exr hv2 (by decide) (by decide)
      refine q_aload_n C dL_law_975 976 3 rfl rfl ?_
      refine q_aload_n C dL_law_976 977 4 rfl rfl ?_
      refine q_iload C dL_law_977 979 0 rfl rfl ?_
      refine q_iconst (v := nI 1) C dL_law_979 980 rfl (by decide) ?_
      refine q_iadd (v := nI (i + 1)) C dL_law_980 981 rfl (q_nadd (by omega)) ?_
      refine q_sld (v := nI c) C hXb hbl hbA (i + 1) rfl (by omega) (by omega) hxv dL_law_981 982 rfl ?_
      refine q_aload_n C dL_law_982 983 4 rfl rfl ?_
      refine q_iload C dL_law_983 985 0 rfl rfl ?_
      refine q_iconst (v := nI 2) C dL_law_985 986 rfl (by decide) ?_
      refine q_iadd (v := nI (i + 2)) C dL_law_986 987 rfl (q_nadd (by omega)) ?_
      refine q_sld (v := nI c2) C hXb hbl hbA (i + 2) rfl (by omega) (by omega) hxv2 dL_law_987 988 rfl ?_
      refine q_aload_n C dL_law_988 989 1 rfl rfl ?_
      refine q_reord [0, 1, 2, 3, 4, 19, 5, 6, 7, 8, 9, 10, 11, 12, 13, 14, 15, 16, 17, 18] (by decide : ([0, 1, 2, 3, 4, 19, 5, 6, 7, 8, 9, 10, 11, 12, 13, 14, 15, 16, 17, 18] : List Nat).Perm (List.range 20)) (Rs' := [wX, wO, wA, wB, wL, [(o, .inl (cJ, 1, .inr (.inl g)))], wH, vO, vA, vB, vL, wT, wK, wP, wQ, wZ, wV, wN, wU, wD]) rfl rfl ?_
      refine q_resp (Rs' := [[wX, wO, wA, wB, wL].flatten, [(o, .inl (cJ, 1, .inr (.inl g)))], wH, vO, vA, vB, vL, wT, wK, wP, wQ, wZ, wV, wN, wU, wD]) (by simp) ?_
      refine q_callSW (n := 4) (As := [.ref x, .int (nI c), .int (nI c2), .ref o]) (rest := []) (Rr := [wH, vO, vA, vB, vL, wT, wK, wP, wQ, wZ, wV, wN, wU, wD]) C (c_L_line_ok l hZ hJ x o (nI c) (nI c2) (r := k_tp bx ln sc c c2) (q_hd (k_isX_recv rX)) (q_Cflat (List.append_nil _).symm (c_X6_line_c l hZ hI hN x aO aY aN hsn aT aK wX rX aB aL aS sc wO rO wA rA bx at0 wB rB ln wL rL c c2 (by omega) hv (by omega))) (Nat.le_of_ble_eq_true rfl) (Nat.le_of_ble_eq_true rfl) rfl rfl (fun _ _ _ h => h.1) g) gL_law_L_line rfl rfl rfl (by decide +kernel) B.1 ⟨Nat.le_of_ble_eq_true rfl, Nat.le_of_ble_eq_true rfl⟩ rfl rfl (Nat.le_of_ble_eq_true rfl) dL_law_989 ⟨(by show (80 + i) + 0 ≤ 601024; omega), (by show (6951 + 2 * i) + 0 ≤ 7293034; omega)⟩ [0, 1] [2, 3, 4, 5, 6, 7, 8, 9, 10, 11, 12, 13, 14, 15] (by decide : ([0, 1] ++ ([2, 3, 4, 5, 6, 7, 8, 9, 10, 11, 12, 13, 14, 15] : List Nat)).Perm (List.range 16)) rfl rfl 992 rfl (fun v0 R0 t0 ht0 hp0 => ?_)
      obtain ⟨rfl, R1, t1, ⟨-, rfl⟩, rfl⟩ := hp0
      refine q_eqs (st' := [.int (nI 0)]) rfl ?_
      refine q_resp (Rs' := [wX, wO, wA, wB, wL, [(o, .inl (cJ, 1, .inr (.inl (va_up g 0 (k_tp bx ln sc c c2).toInt64))))], wH, vO, vA, vB, vL, wT, wK, wP, wQ, wZ, wV, wN, wU, wD]) (by simp) ?_
      refine q_reord [0, 1, 2, 3, 4, 6, 7, 8, 9, 10, 11, 12, 13, 14, 15, 16, 17, 18, 19, 5] (by decide : ([0, 1, 2, 3, 4, 6, 7, 8, 9, 10, 11, 12, 13, 14, 15, 16, 17, 18, 19, 5] : List Nat).Perm (List.range 20)) (Rs' := [wX, wO, wA, wB, wL, wH, vO, vA, vB, vL, wT, wK, wP, wQ, wZ, wV, wN, wU, wD, [(o, .inl (cJ, 1, .inr (.inl (va_up g 0 (k_tp bx ln sc c c2).toInt64))))]]) rfl rfl ?_
      refine q_istore C dL_law_992 994 rfl [(5, .int (nI 0)), (4, .int (nI i)), (3, .ref o), (2, .ref y), (1, .ref x), (0, .ref b)] (by decide) rfl ?_
      refine q_aload_n C dL_law_994 995 3 rfl rfl ?_
      refine q_aload_n C dL_law_995 996 5 rfl rfl ?_
      refine q_iload C dL_law_996 998 1 rfl rfl ?_
      refine q_iconst (v := nI 1) C dL_law_998 999 rfl (by decide) ?_
      refine q_iadd (v := nI (i + 1)) C dL_law_999 1000 rfl (q_nadd (by omega)) ?_
      refine q_sld (v := nI c) C hXb hbl hbA (i + 1) rfl (by omega) (by omega) hxv dL_law_1000 1001 rfl ?_
      refine q_aload_n C dL_law_1001 1002 5 rfl rfl ?_
      refine q_iload C dL_law_1002 1004 1 rfl rfl ?_
      refine q_iconst (v := nI 2) C dL_law_1004 1005 rfl (by decide) ?_
      refine q_iadd (v := nI (i + 2)) C dL_law_1005 1006 rfl (q_nadd (by omega)) ?_
      refine q_sld (v := nI c2) C hXb hbl hbA (i + 2) rfl (by omega) (by omega) hxv2 dL_law_1006 1007 rfl ?_
      refine q_callV (k := 12) (ci := 6) (n := 2) (rest := []) (Rr := [wX, wO, wA, wB, wL, wH, vO, vA, vB, vL, wT, wK, wZ, wV, wN, wU, wD, [(o, .inl (cJ, 1, .inr (.inl (va_up g 0 (k_tp bx ln sc c c2).toInt64))))]]) C rfl (k_isP_recv rP) rfl (c_X7_line_c l hZ hI y mS mZ mV mN mU mD fd hh wP rP bx at0 ln sc wQ rQ c c2 (by omega) hv (by omega)) gL_law_X7_line rfl rfl rfl (by decide +kernel) B.1 ⟨Nat.le_of_ble_eq_true rfl, Nat.le_of_ble_eq_true rfl⟩ rfl rfl (Nat.le_of_ble_eq_true rfl) dL_law_1007 ⟨(by show ((80 + i) + 0) + 0 ≤ 601024; omega), (by show ((6951 + 2 * i) + 0) + 0 ≤ 7293034; omega)⟩ [12, 13] [0, 1, 2, 3, 4, 5, 6, 7, 8, 9, 10, 11, 14, 15, 16, 17, 18, 19] (by decide : ([12, 13] ++ ([0, 1, 2, 3, 4, 5, 6, 7, 8, 9, 10, 11, 14, 15, 16, 17, 18, 19] : List Nat)).Perm (List.range 20)) rfl rfl 1010 rfl (fun v0 R0 t0 ht0 hp0 => ?_)
      obtain ⟨rfl, wP_1007, hwP_1007, rfl⟩ := hp0
      refine q_eqs (st' := [.int (k_tp bx ln sc c c2)]) rfl ?_
      refine q_reord [2, 3, 4, 5, 6, 7, 8, 9, 10, 11, 12, 13, 0, 1, 14, 15, 16, 17, 18, 19] (by decide : ([2, 3, 4, 5, 6, 7, 8, 9, 10, 11, 12, 13, 0, 1, 14, 15, 16, 17, 18, 19] : List Nat).Perm (List.range 20)) (Rs' := [wX, wO, wA, wB, wL, wH, vO, vA, vB, vL, wT, wK, wP_1007, wQ, wZ, wV, wN, wU, wD, [(o, .inl (cJ, 1, .inr (.inl (va_up g 0 (k_tp bx ln sc c c2).toInt64))))]]) rfl rfl ?_
      refine q_istore C dL_law_1010 1012 rfl [(6, .int (k_tp bx ln sc c c2)), (5, .int (nI 0)), (4, .int (nI i)), (3, .ref o), (2, .ref y), (1, .ref x), (0, .ref b)] (by decide) rfl ?_
      refine q_aload_n C dL_law_1012 1013 4 rfl rfl ?_
      refine q_callV (k := 12) (ci := 6) (n := 0) (rest := []) (Rr := [wX, wO, wA, wB, wL, wH, vO, vA, vB, vL, wT, wK, wQ, wZ, wV, wN, wU, wD, [(o, .inl (cJ, 1, .inr (.inl (va_up g 0 (k_tp bx ln sc c c2).toInt64))))]]) C rfl (k_isP_recv hwP_1007) rfl (c_X7_thrown l hZ hI y mS mZ mV mN mU mD (upd fd 0 (nI 0)) hh wP_1007 hwP_1007) gL_law_X7_thrown rfl rfl rfl (by decide +kernel) B.1 ⟨Nat.le_of_ble_eq_true rfl, Nat.le_of_ble_eq_true rfl⟩ rfl rfl (Nat.le_of_ble_eq_true rfl) dL_law_1013 ⟨(by show ((80 + i) + 0) + 0 ≤ 601024; omega), (by show ((6951 + 2 * i) + 0) + 0 ≤ 7293034; omega)⟩ [12] [0, 1, 2, 3, 4, 5, 6, 7, 8, 9, 10, 11, 13, 14, 15, 16, 17, 18, 19] (by decide : ([12] ++ ([0, 1, 2, 3, 4, 5, 6, 7, 8, 9, 10, 11, 13, 14, 15, 16, 17, 18, 19] : List Nat)).Perm (List.range 20)) rfl rfl 1016 rfl (fun v0 R0 t0 ht0 hp0 => ?_)
      obtain ⟨rfl, rfl⟩ := hp0
      refine q_eqs (st' := [.int ((upd fd 0 (nI 0)) 0)]) rfl ?_
      refine q_reord [1, 2, 3, 4, 5, 6, 7, 8, 9, 10, 11, 12, 0, 13, 14, 15, 16, 17, 18, 19] (by decide : ([1, 2, 3, 4, 5, 6, 7, 8, 9, 10, 11, 12, 0, 13, 14, 15, 16, 17, 18, 19] : List Nat).Perm (List.range 20)) (Rs' := [wX, wO, wA, wB, wL, wH, vO, vA, vB, vL, wT, wK, wP_1007, wQ, wZ, wV, wN, wU, wD, [(o, .inl (cJ, 1, .inr (.inl (va_up g 0 (k_tp bx ln sc c c2).toInt64))))]]) rfl rfl ?_
      refine q_eqs (st' := [.int (nI 0)]) (by rw [pk_us]) ?_
      refine q_iload C dL_law_1016 1018 1 rfl rfl ?_
      refine q_icmp_eq C dL_law_1018 1021 1023 rfl (by decide) (nI_eq (by omega) (by omega)) (fun h1018 => ?_) (fun h1018 => False.elim (by first | omega | simp_all))
      refine q_iload C dL_law_1023 1025 1 rfl rfl ?_
      refine q_if_ne C dL_law_1025 1028 1040 rfl (by decide) (q_eq0 (by omega)) (fun h1025 => False.elim (by first | omega | simp_all)) (fun h1025 => ?_)
      refine q_aload_n C dL_law_1028 1029 3 rfl rfl ?_
      refine q_iconst (v := nI 0) C dL_law_1029 1030 rfl (by decide) ?_
      refine q_lald (k := 19) (j := 0) (v := (k_tp bx ln sc c c2).toInt64) C dL_law_1030 1031 rfl rfl rfl hJ 0 rfl (by decide) (by decide) k_up_s ?_
      refine q_iload C dL_law_1031 1033 0 rfl rfl ?_
      refine q_i2l (v := ((k_tp bx ln sc c c2) : Int32).toInt64) C dL_law_1033 1034 rfl rfl ?_
      refine q_lcmp C dL_law_1034 1035 rfl ?_
      refine q_if_eq C dL_law_1035 1038 1040 rfl (by decide) Iff.rfl (fun h1035 => ?_) (fun h1035 => False.elim (h1035 (lg_self _)))
      refine q_goto C dL_law_1040 1304 (by decide) ?_
      refine q_sub (L' := [(4, .int (nI i)), (3, .ref o), (2, .ref y), (1, .ref x), (0, .ref b)]) [2, 3, 4, 5, 6] rfl ?_
      refine q_widen (k := 80 + i + 1) (n := 6951 + 2 * i + 6) (by omega) (by omega) ?_
      exact kk _ ⟨(bx, at0, ln, sc), sv, hsn, (sb, sa, sl, ss), (nb, na, nl, ns), tx, upd fd 0 (nI 0), va_up g 0 (k_tp bx ln sc c c2).toInt64, _, _, ⟨_, _, _, _, _, _, _, _, _, _, _, _, _, _, _, _, _, _, _, _, _, _, _, _, _, rX, ⟨rO, rA, rB, rL⟩, rH, ⟨gO, gA, gB, gL⟩, rT, rK, rfl⟩, ⟨_, _, _, _, _, _, _, (zb, za, zl, zs), _, _, _, _, _, _, _, _, _, hwP_1007, rQ, rZ, rV, rN, rU, rD, rfl⟩, hIv, hIs, (by rw [pk_un (by decide)]; exact q4), (by rw [pk_un (by decide)]; exact q8), (k_Sn_eq hsn6 (by rw [pk_un (by decide)])), hl6, rfl⟩
      
    · refine q_aload_n C dL_law_975 976 3 rfl rfl ?_
      refine q_aload_n C dL_law_976 977 4 rfl rfl ?_
      refine q_iload C dL_law_977 979 0 rfl rfl ?_
      refine q_iconst (v := nI 1) C dL_law_979 980 rfl (by decide) ?_
      refine q_iadd (v := nI (i + 1)) C dL_law_980 981 rfl (q_nadd (by omega)) ?_
      refine q_sld (v := nI c) C hXb hbl hbA (i + 1) rfl (by omega) (by omega) hxv dL_law_981 982 rfl ?_
      refine q_aload_n C dL_law_982 983 4 rfl rfl ?_
      refine q_iload C dL_law_983 985 0 rfl rfl ?_
      refine q_iconst (v := nI 2) C dL_law_985 986 rfl (by decide) ?_
      refine q_iadd (v := nI (i + 2)) C dL_law_986 987 rfl (q_nadd (by omega)) ?_
      refine q_sld (v := v2) C hXb hbl hbA (i + 2) rfl (by omega) (by omega) hxv2 dL_law_987 988 rfl ?_
      refine q_aload_n C dL_law_988 989 1 rfl rfl ?_
      refine q_reord [0, 1, 2, 4, 19, 3, 5, 6, 7, 8, 9, 10, 11, 12, 13, 14, 15, 16, 17, 18] (by decide : ([0, 1, 2, 4, 19, 3, 5, 6, 7, 8, 9, 10, 11, 12, 13, 14, 15, 16, 17, 18] : List Nat).Perm (List.range 20)) (Rs' := [wX, wO, wA, wL, [(o, .inl (cJ, 1, .inr (.inl g)))], wB, wH, vO, vA, vB, vL, wT, wK, wP, wQ, wZ, wV, wN, wU, wD]) rfl rfl ?_
      refine q_resp (Rs' := [[wX, wO, wA, wL].flatten, [(o, .inl (cJ, 1, .inr (.inl g)))], wB, wH, vO, vA, vB, vL, wT, wK, wP, wQ, wZ, wV, wN, wU, wD]) (by simp) ?_
      refine q_callSW (n := 4) (As := [.ref x, .int (nI c), .int v2, .ref o]) (rest := []) (Rr := [wB, wH, vO, vA, vB, vL, wT, wK, wP, wQ, wZ, wV, wN, wU, wD]) C (c_L_line_x2 l hZ hJ hXs x o (nI c) v2 (q_hd (k_isX_recv rX)) (q_Xflat (List.append_nil _).symm (c_X6_line_b l hZ hI hN hXs hlT x aO aY aN hsn aT aK wX rX aB aL aS sc wO rO wA rA ln wL rL c v2 (by omega) hv hv2)) (Nat.le_of_ble_eq_true rfl) (Nat.le_of_ble_eq_true rfl) rfl rfl g) gL_law_L_line rfl rfl rfl (by decide +kernel) B.1 ⟨Nat.le_of_ble_eq_true rfl, Nat.le_of_ble_eq_true rfl⟩ rfl rfl (Nat.le_of_ble_eq_true rfl) dL_law_989 ⟨(by show (80 + i) + 1 ≤ 601024; omega), (by show (6951 + 2 * i) + 6 ≤ 7293034; omega)⟩ [0, 1] [2, 3, 4, 5, 6, 7, 8, 9, 10, 11, 12, 13, 14, 15, 16] (by decide : ([0, 1] ++ ([2, 3, 4, 5, 6, 7, 8, 9, 10, 11, 12, 13, 14, 15, 16] : List Nat)).Perm (List.range 17)) rfl rfl 992 rfl (fun v0 R0 t0 ht0 hp0 => ?_)
      obtain ⟨rfl, rfl⟩ := hp0
      refine q_eqs (st' := [.int (nI 2)]) rfl ?_
      refine q_resp (Rs' := [wX, wO, wA, wL, [(o, .inl (cJ, 1, .inr (.inl g)))], wB, wH, vO, vA, vB, vL, wT, wK, wP, wQ, wZ, wV, wN, wU, wD]) (by simp) ?_
      refine q_reord [0, 1, 2, 5, 3, 6, 7, 8, 9, 10, 11, 12, 13, 14, 15, 16, 17, 18, 19, 4] (by decide : ([0, 1, 2, 5, 3, 6, 7, 8, 9, 10, 11, 12, 13, 14, 15, 16, 17, 18, 19, 4] : List Nat).Perm (List.range 20)) (Rs' := [wX, wO, wA, wB, wL, wH, vO, vA, vB, vL, wT, wK, wP, wQ, wZ, wV, wN, wU, wD, [(o, .inl (cJ, 1, .inr (.inl g)))]]) rfl rfl ?_
      refine q_istore C dL_law_992 994 rfl [(5, .int (nI 2)), (4, .int (nI i)), (3, .ref o), (2, .ref y), (1, .ref x), (0, .ref b)] (by decide) rfl ?_
      refine q_aload_n C dL_law_994 995 3 rfl rfl ?_
      refine q_aload_n C dL_law_995 996 5 rfl rfl ?_
      refine q_iload C dL_law_996 998 1 rfl rfl ?_
      refine q_iconst (v := nI 1) C dL_law_998 999 rfl (by decide) ?_
      refine q_iadd (v := nI (i + 1)) C dL_law_999 1000 rfl (q_nadd (by omega)) ?_
      refine q_sld (v := nI c) C hXb hbl hbA (i + 1) rfl (by omega) (by omega) hxv dL_law_1000 1001 rfl ?_
      refine q_aload_n C dL_law_1001 1002 5 rfl rfl ?_
      refine q_iload C dL_law_1002 1004 1 rfl rfl ?_
      refine q_iconst (v := nI 2) C dL_law_1004 1005 rfl (by decide) ?_
      refine q_iadd (v := nI (i + 2)) C dL_law_1005 1006 rfl (q_nadd (by omega)) ?_
      refine q_sld (v := v2) C hXb hbl hbA (i + 2) rfl (by omega) (by omega) hxv2 dL_law_1006 1007 rfl ?_
      refine q_callV (k := 12) (ci := 6) (n := 2) (rest := []) (Rr := [wX, wO, wA, wB, wL, wH, vO, vA, vB, vL, wT, wK, wZ, wV, wN, wU, wD, [(o, .inl (cJ, 1, .inr (.inl g)))]]) C rfl (k_isP_recv rP) rfl (c_X7_line_b l hZ hI y mS mZ mV mN mU mD fd hh wP rP bx at0 ln sc wQ rQ c v2 (by omega) hv hv2) gL_law_X7_line rfl rfl rfl (by decide +kernel) B.1 ⟨Nat.le_of_ble_eq_true rfl, Nat.le_of_ble_eq_true rfl⟩ rfl rfl (Nat.le_of_ble_eq_true rfl) dL_law_1007 ⟨(by show ((80 + i) + 1) + 0 ≤ 601024; omega), (by show ((6951 + 2 * i) + 6) + 0 ≤ 7293034; omega)⟩ [12, 13] [0, 1, 2, 3, 4, 5, 6, 7, 8, 9, 10, 11, 14, 15, 16, 17, 18, 19] (by decide : ([12, 13] ++ ([0, 1, 2, 3, 4, 5, 6, 7, 8, 9, 10, 11, 14, 15, 16, 17, 18, 19] : List Nat)).Perm (List.range 20)) rfl rfl 1010 rfl (fun v0 R0 t0 ht0 hp0 => ?_)
      obtain ⟨rfl, wP_1007, hwP_1007, rfl⟩ := hp0
      refine q_eqs (st' := [.int (nI 0)]) rfl ?_
      refine q_reord [2, 3, 4, 5, 6, 7, 8, 9, 10, 11, 12, 13, 0, 1, 14, 15, 16, 17, 18, 19] (by decide : ([2, 3, 4, 5, 6, 7, 8, 9, 10, 11, 12, 13, 0, 1, 14, 15, 16, 17, 18, 19] : List Nat).Perm (List.range 20)) (Rs' := [wX, wO, wA, wB, wL, wH, vO, vA, vB, vL, wT, wK, wP_1007, wQ, wZ, wV, wN, wU, wD, [(o, .inl (cJ, 1, .inr (.inl g)))]]) rfl rfl ?_
      refine q_istore C dL_law_1010 1012 rfl [(6, .int (nI 0)), (5, .int (nI 2)), (4, .int (nI i)), (3, .ref o), (2, .ref y), (1, .ref x), (0, .ref b)] (by decide) rfl ?_
      refine q_aload_n C dL_law_1012 1013 4 rfl rfl ?_
      refine q_callV (k := 12) (ci := 6) (n := 0) (rest := []) (Rr := [wX, wO, wA, wB, wL, wH, vO, vA, vB, vL, wT, wK, wQ, wZ, wV, wN, wU, wD, [(o, .inl (cJ, 1, .inr (.inl g)))]]) C rfl (k_isP_recv hwP_1007) rfl (c_X7_thrown l hZ hI y mS mZ mV mN mU mD (upd (upd fd 0 (nI 0)) 0 (nI 2)) hh wP_1007 hwP_1007) gL_law_X7_thrown rfl rfl rfl (by decide +kernel) B.1 ⟨Nat.le_of_ble_eq_true rfl, Nat.le_of_ble_eq_true rfl⟩ rfl rfl (Nat.le_of_ble_eq_true rfl) dL_law_1013 ⟨(by show ((80 + i) + 1) + 0 ≤ 601024; omega), (by show ((6951 + 2 * i) + 6) + 0 ≤ 7293034; omega)⟩ [12] [0, 1, 2, 3, 4, 5, 6, 7, 8, 9, 10, 11, 13, 14, 15, 16, 17, 18, 19] (by decide : ([12] ++ ([0, 1, 2, 3, 4, 5, 6, 7, 8, 9, 10, 11, 13, 14, 15, 16, 17, 18, 19] : List Nat)).Perm (List.range 20)) rfl rfl 1016 rfl (fun v0 R0 t0 ht0 hp0 => ?_)
      obtain ⟨rfl, rfl⟩ := hp0
      refine q_eqs (st' := [.int ((upd (upd fd 0 (nI 0)) 0 (nI 2)) 0)]) rfl ?_
      refine q_reord [1, 2, 3, 4, 5, 6, 7, 8, 9, 10, 11, 12, 0, 13, 14, 15, 16, 17, 18, 19] (by decide : ([1, 2, 3, 4, 5, 6, 7, 8, 9, 10, 11, 12, 0, 13, 14, 15, 16, 17, 18, 19] : List Nat).Perm (List.range 20)) (Rs' := [wX, wO, wA, wB, wL, wH, vO, vA, vB, vL, wT, wK, wP_1007, wQ, wZ, wV, wN, wU, wD, [(o, .inl (cJ, 1, .inr (.inl g)))]]) rfl rfl ?_
      refine q_eqs (st' := [.int (nI 2)]) (by rw [pk_us]) ?_
      refine q_iload C dL_law_1016 1018 1 rfl rfl ?_
      refine q_icmp_eq C dL_law_1018 1021 1023 rfl (by decide) (nI_eq (by omega) (by omega)) (fun h1018 => ?_) (fun h1018 => False.elim (by first | omega | simp_all))
      refine q_iload C dL_law_1023 1025 1 rfl rfl ?_
      refine q_if_ne C dL_law_1025 1028 1040 rfl (by decide) (q_eq0 (by omega)) (fun h1025 => ?_) (fun h1025 => False.elim (by first | omega | simp_all))
      refine q_goto C dL_law_1040 1304 (by decide) ?_
      refine q_sub (L' := [(4, .int (nI i)), (3, .ref o), (2, .ref y), (1, .ref x), (0, .ref b)]) [2, 3, 4, 5, 6] rfl ?_
      refine q_widen (k := 80 + i + 1) (n := 6951 + 2 * i + 6) (by omega) (by omega) ?_
      exact kk _ ⟨(bx, at0, ln, sc), sv, hsn, (sb, sa, sl, ss), (nb, na, nl, ns), tx, upd (upd fd 0 (nI 0)) 0 (nI 2), g, _, _, ⟨_, _, _, _, _, _, _, _, _, _, _, _, _, _, _, _, _, _, _, _, _, _, _, _, _, rX, ⟨rO, rA, rB, rL⟩, rH, ⟨gO, gA, gB, gL⟩, rT, rK, rfl⟩, ⟨_, _, _, _, _, _, _, (zb, za, zl, zs), _, _, _, _, _, _, _, _, _, hwP_1007, rQ, rZ, rV, rN, rU, rD, rfl⟩, hIv, hIs, (by rw [pk_un (by decide), pk_un (by decide)]; exact q4), (by rw [pk_un (by decide), pk_un (by decide)]; exact q8), (k_Sn_eq hsn6 (by rw [pk_un (by decide), pk_un (by decide)])), hl6, rfl⟩
      
  · refine q_aload_n C dL_law_975 976 3 rfl rfl ?_
    refine q_aload_n C dL_law_976 977 4 rfl rfl ?_
    refine q_iload C dL_law_977 979 0 rfl rfl ?_
    refine q_iconst (v := nI 1) C dL_law_979 980 rfl (by decide) ?_
    refine q_iadd (v := nI (i + 1)) C dL_law_980 981 rfl (q_nadd (by omega)) ?_
    refine q_sld (v := v) C hXb hbl hbA (i + 1) rfl (by omega) (by omega) hxv dL_law_981 982 rfl ?_
    refine q_aload_n C dL_law_982 983 4 rfl rfl ?_
    refine q_iload C dL_law_983 985 0 rfl rfl ?_
    refine q_iconst (v := nI 2) C dL_law_985 986 rfl (by decide) ?_
    refine q_iadd (v := nI (i + 2)) C dL_law_986 987 rfl (q_nadd (by omega)) ?_
    refine q_sld (v := v2) C hXb hbl hbA (i + 2) rfl (by omega) (by omega) hxv2 dL_law_987 988 rfl ?_
    refine q_aload_n C dL_law_988 989 1 rfl rfl ?_
    refine q_reord [0, 1, 2, 4, 19, 3, 5, 6, 7, 8, 9, 10, 11, 12, 13, 14, 15, 16, 17, 18] (by decide : ([0, 1, 2, 4, 19, 3, 5, 6, 7, 8, 9, 10, 11, 12, 13, 14, 15, 16, 17, 18] : List Nat).Perm (List.range 20)) (Rs' := [wX, wO, wA, wL, [(o, .inl (cJ, 1, .inr (.inl g)))], wB, wH, vO, vA, vB, vL, wT, wK, wP, wQ, wZ, wV, wN, wU, wD]) rfl rfl ?_
    refine q_resp (Rs' := [[wX, wO, wA, wL].flatten, [(o, .inl (cJ, 1, .inr (.inl g)))], wB, wH, vO, vA, vB, vL, wT, wK, wP, wQ, wZ, wV, wN, wU, wD]) (by simp) ?_
    refine q_callSW (n := 4) (As := [.ref x, .int v, .int v2, .ref o]) (rest := []) (Rr := [wB, wH, vO, vA, vB, vL, wT, wK, wP, wQ, wZ, wV, wN, wU, wD]) C (c_L_line_x1 l hZ hJ hXs x o v v2 (q_hd (k_isX_recv rX)) (q_Xflat (List.append_nil _).symm (c_X6_line_a l hZ hI hN hXs hlT x aO aY aN hsn aT aK wX rX aB aL aS sc wO rO wA rA ln wL rL v v2 (Bool.eq_false_iff.mpr hv))) (Nat.le_of_ble_eq_true rfl) (Nat.le_of_ble_eq_true rfl) rfl rfl g) gL_law_L_line rfl rfl rfl (by decide +kernel) B.1 ⟨Nat.le_of_ble_eq_true rfl, Nat.le_of_ble_eq_true rfl⟩ rfl rfl (Nat.le_of_ble_eq_true rfl) dL_law_989 ⟨(by show (80 + i) + 1 ≤ 601024; omega), (by show (6951 + 2 * i) + 6 ≤ 7293034; omega)⟩ [0, 1] [2, 3, 4, 5, 6, 7, 8, 9, 10, 11, 12, 13, 14, 15, 16] (by decide : ([0, 1] ++ ([2, 3, 4, 5, 6, 7, 8, 9, 10, 11, 12, 13, 14, 15, 16] : List Nat)).Perm (List.range 17)) rfl rfl 992 rfl (fun v0 R0 t0 ht0 hp0 => ?_)
    obtain ⟨rfl, rfl⟩ := hp0
    refine q_eqs (st' := [.int (nI 1)]) rfl ?_
    refine q_resp (Rs' := [wX, wO, wA, wL, [(o, .inl (cJ, 1, .inr (.inl g)))], wB, wH, vO, vA, vB, vL, wT, wK, wP, wQ, wZ, wV, wN, wU, wD]) (by simp) ?_
    refine q_reord [0, 1, 2, 5, 3, 6, 7, 8, 9, 10, 11, 12, 13, 14, 15, 16, 17, 18, 19, 4] (by decide : ([0, 1, 2, 5, 3, 6, 7, 8, 9, 10, 11, 12, 13, 14, 15, 16, 17, 18, 19, 4] : List Nat).Perm (List.range 20)) (Rs' := [wX, wO, wA, wB, wL, wH, vO, vA, vB, vL, wT, wK, wP, wQ, wZ, wV, wN, wU, wD, [(o, .inl (cJ, 1, .inr (.inl g)))]]) rfl rfl ?_
    refine q_istore C dL_law_992 994 rfl [(5, .int (nI 1)), (4, .int (nI i)), (3, .ref o), (2, .ref y), (1, .ref x), (0, .ref b)] (by decide) rfl ?_
    refine q_aload_n C dL_law_994 995 3 rfl rfl ?_
    refine q_aload_n C dL_law_995 996 5 rfl rfl ?_
    refine q_iload C dL_law_996 998 1 rfl rfl ?_
    refine q_iconst (v := nI 1) C dL_law_998 999 rfl (by decide) ?_
    refine q_iadd (v := nI (i + 1)) C dL_law_999 1000 rfl (q_nadd (by omega)) ?_
    refine q_sld (v := v) C hXb hbl hbA (i + 1) rfl (by omega) (by omega) hxv dL_law_1000 1001 rfl ?_
    refine q_aload_n C dL_law_1001 1002 5 rfl rfl ?_
    refine q_iload C dL_law_1002 1004 1 rfl rfl ?_
    refine q_iconst (v := nI 2) C dL_law_1004 1005 rfl (by decide) ?_
    refine q_iadd (v := nI (i + 2)) C dL_law_1005 1006 rfl (q_nadd (by omega)) ?_
    refine q_sld (v := v2) C hXb hbl hbA (i + 2) rfl (by omega) (by omega) hxv2 dL_law_1006 1007 rfl ?_
    refine q_callV (k := 12) (ci := 6) (n := 2) (rest := []) (Rr := [wX, wO, wA, wB, wL, wH, vO, vA, vB, vL, wT, wK, wZ, wV, wN, wU, wD, [(o, .inl (cJ, 1, .inr (.inl g)))]]) C rfl (k_isP_recv rP) rfl (c_X7_line_a l hZ hI y mS mZ mV mN mU mD fd hh wP rP bx at0 ln sc wQ rQ v v2 (Bool.eq_false_iff.mpr hv)) gL_law_X7_line rfl rfl rfl (by decide +kernel) B.1 ⟨Nat.le_of_ble_eq_true rfl, Nat.le_of_ble_eq_true rfl⟩ rfl rfl (Nat.le_of_ble_eq_true rfl) dL_law_1007 ⟨(by show ((80 + i) + 1) + 0 ≤ 601024; omega), (by show ((6951 + 2 * i) + 6) + 0 ≤ 7293034; omega)⟩ [12, 13] [0, 1, 2, 3, 4, 5, 6, 7, 8, 9, 10, 11, 14, 15, 16, 17, 18, 19] (by decide : ([12, 13] ++ ([0, 1, 2, 3, 4, 5, 6, 7, 8, 9, 10, 11, 14, 15, 16, 17, 18, 19] : List Nat)).Perm (List.range 20)) rfl rfl 1010 rfl (fun v0 R0 t0 ht0 hp0 => ?_)
    obtain ⟨rfl, wP_1007, hwP_1007, rfl⟩ := hp0
    refine q_eqs (st' := [.int (nI 0)]) rfl ?_
    refine q_reord [2, 3, 4, 5, 6, 7, 8, 9, 10, 11, 12, 13, 0, 1, 14, 15, 16, 17, 18, 19] (by decide : ([2, 3, 4, 5, 6, 7, 8, 9, 10, 11, 12, 13, 0, 1, 14, 15, 16, 17, 18, 19] : List Nat).Perm (List.range 20)) (Rs' := [wX, wO, wA, wB, wL, wH, vO, vA, vB, vL, wT, wK, wP_1007, wQ, wZ, wV, wN, wU, wD, [(o, .inl (cJ, 1, .inr (.inl g)))]]) rfl rfl ?_
    refine q_istore C dL_law_1010 1012 rfl [(6, .int (nI 0)), (5, .int (nI 1)), (4, .int (nI i)), (3, .ref o), (2, .ref y), (1, .ref x), (0, .ref b)] (by decide) rfl ?_
    refine q_aload_n C dL_law_1012 1013 4 rfl rfl ?_
    refine q_callV (k := 12) (ci := 6) (n := 0) (rest := []) (Rr := [wX, wO, wA, wB, wL, wH, vO, vA, vB, vL, wT, wK, wQ, wZ, wV, wN, wU, wD, [(o, .inl (cJ, 1, .inr (.inl g)))]]) C rfl (k_isP_recv hwP_1007) rfl (c_X7_thrown l hZ hI y mS mZ mV mN mU mD (upd (upd fd 0 (nI 0)) 0 (nI 1)) hh wP_1007 hwP_1007) gL_law_X7_thrown rfl rfl rfl (by decide +kernel) B.1 ⟨Nat.le_of_ble_eq_true rfl, Nat.le_of_ble_eq_true rfl⟩ rfl rfl (Nat.le_of_ble_eq_true rfl) dL_law_1013 ⟨(by show ((80 + i) + 1) + 0 ≤ 601024; omega), (by show ((6951 + 2 * i) + 6) + 0 ≤ 7293034; omega)⟩ [12] [0, 1, 2, 3, 4, 5, 6, 7, 8, 9, 10, 11, 13, 14, 15, 16, 17, 18, 19] (by decide : ([12] ++ ([0, 1, 2, 3, 4, 5, 6, 7, 8, 9, 10, 11, 13, 14, 15, 16, 17, 18, 19] : List Nat)).Perm (List.range 20)) rfl rfl 1016 rfl (fun v0 R0 t0 ht0 hp0 => ?_)
    obtain ⟨rfl, rfl⟩ := hp0
    refine q_eqs (st' := [.int ((upd (upd fd 0 (nI 0)) 0 (nI 1)) 0)]) rfl ?_
    refine q_reord [1, 2, 3, 4, 5, 6, 7, 8, 9, 10, 11, 12, 0, 13, 14, 15, 16, 17, 18, 19] (by decide : ([1, 2, 3, 4, 5, 6, 7, 8, 9, 10, 11, 12, 0, 13, 14, 15, 16, 17, 18, 19] : List Nat).Perm (List.range 20)) (Rs' := [wX, wO, wA, wB, wL, wH, vO, vA, vB, vL, wT, wK, wP_1007, wQ, wZ, wV, wN, wU, wD, [(o, .inl (cJ, 1, .inr (.inl g)))]]) rfl rfl ?_
    refine q_eqs (st' := [.int (nI 1)]) (by rw [pk_us]) ?_
    refine q_iload C dL_law_1016 1018 1 rfl rfl ?_
    refine q_icmp_eq C dL_law_1018 1021 1023 rfl (by decide) (nI_eq (by omega) (by omega)) (fun h1018 => ?_) (fun h1018 => False.elim (by first | omega | simp_all))
    refine q_iload C dL_law_1023 1025 1 rfl rfl ?_
    refine q_if_ne C dL_law_1025 1028 1040 rfl (by decide) (q_eq0 (by omega)) (fun h1025 => ?_) (fun h1025 => False.elim (by first | omega | simp_all))
    refine q_goto C dL_law_1040 1304 (by decide) ?_
    refine q_sub (L' := [(4, .int (nI i)), (3, .ref o), (2, .ref y), (1, .ref x), (0, .ref b)]) [2, 3, 4, 5, 6] rfl ?_
    refine q_widen (k := 80 + i + 1) (n := 6951 + 2 * i + 6) (by omega) (by omega) ?_
    exact kk _ ⟨(bx, at0, ln, sc), sv, hsn, (sb, sa, sl, ss), (nb, na, nl, ns), tx, upd (upd fd 0 (nI 0)) 0 (nI 1), g, _, _, ⟨_, _, _, _, _, _, _, _, _, _, _, _, _, _, _, _, _, _, _, _, _, _, _, _, _, rX, ⟨rO, rA, rB, rL⟩, rH, ⟨gO, gA, gB, gL⟩, rT, rK, rfl⟩, ⟨_, _, _, _, _, _, _, (zb, za, zl, zs), _, _, _, _, _, _, _, _, _, hwP_1007, rQ, rZ, rV, rN, rU, rD, rfl⟩, hIv, hIs, (by rw [pk_un (by decide), pk_un (by decide)]; exact q4), (by rw [pk_un (by decide), pk_un (by decide)]; exact q8), (k_Sn_eq hsn6 (by rw [pk_un (by decide), pk_un (by decide)])), hl6, rfl⟩
    

set_option maxHeartbeats 1000000 in
set_option maxRecDepth 100000 in
theorem law_c18 {p9 : Program} {l : Launch} {e9 : Env} {R : Room} {s9 : State} {m9 : MethodId} {args : Array Value} {below : List Frame} {meth : Method} {c9 : Code} {Q : State → Prop} {D : va_G} {tys : List (ClassId × FieldType)} {A : Nat → Prop} {Z : (Nat → Prop) → State → Heap → Prop} {b LL : Nat} {xs : Nat → Int32} {x y o i : Nat} {Rs : List va_W} (C : q_C p9 s9 m9 args c9 cL_law 9 wsL_law RL D tys Z A) (hZ : q_St Z) {cI cG cJ : ClassId} (hI : tys[0]? = some (cI, .int)) (hG : tys[1]? = some (cG, .object "SortCases$State")) (hJ : tys[2]? = some (cJ, .long)) (hN : q_Ns Z) {ad aw av : Nat → Nat} {tK : Nat} (hKs : q_Ks Z ad aw av tK) {tL tH : Nat} (hVs : q_Vs Z tL tH) (hXs : q_Xs Z) (hlT : l.stackTraces = false) (hXb : va_X b LL xs s9 s9.heap) (hbl : b < s9.heap.size) (hbA : ¬ A b) (hR : R = ({ frames := 12, cells := 601024, slots := 7293034, locals := 454 } : Room)) (hi : i + 3 ≤ LL) (hL : LL ≤ 1536) (hRs : law_I cG cI cJ x y o Rs) (kk : ∀ Rs', law_I cG cI cJ x y o Rs' → q_V p9 l e9 R s9 m9 args below meth c9 D A 9 Q (80 + i + 1) (6951 + 2 * i + 6) 1304 [(4, .int (nI i)), (3, .ref o), (2, .ref y), (1, .ref x), (0, .ref b)] [] Rs') : q_V p9 l e9 R s9 m9 args below meth c9 D A 9 Q (80 + i) (6951 + 2 * i) 1043 [(4, .int (nI i)), (3, .ref o), (2, .ref y), (1, .ref x), (0, .ref b)] [] Rs := by
  have hcI := hI
  have hcG := hG
  have B : R = ({ frames := 12, cells := 601024, slots := 7293034, locals := 454 } : Room) ∧ True := ⟨hR, trivial⟩
  have hts := C.2.2.2.2.1
  obtain ⟨⟨bx, at0, ln, sc⟩, sv, hsn, ⟨sb, sa, sl, ss⟩, ⟨nb, na, nl, ns⟩, tx, fd, g, R1, R2, ⟨aO, aY, aN, aT, aK, aB, aL, aS, naB, naL, naS, kb, ka, wX, wO, wA, wB, wL, wH, vO, vA, vB, vL, wT, wK, rX, ⟨rO, rA, rB, rL⟩, rH, ⟨gO, gA, gB, gL⟩, rT, rK, rfl⟩, ⟨mS, mZ, mV, mN, mU, mD, hh, ⟨zb, za, zl, zs⟩, dx, ps, wP, wQ, wZ, wV, wN, wU, wD, rP, rQ, rZ, rV, rN, rU, rD, rfl⟩, hIv, hIs, q4, q8, hsn6, hl6, rfl⟩ := hRs
  have rO : k_isO cI aO aB aL aS sc wO := rO
  have rA : k_isA cI aS sc wA := rA
  have rB : k_isB cI aB bx at0 wB := rB
  have rL : k_isL cI aL ln wL := rL
  have gO : k_isO cI aN naB naL naS ss vO := gO
  have gA : k_isA cI naS ss vA := gA
  have gB : k_isB cI naB sb sa vB := gB
  have gL : k_isL cI naL sl vL := gL
  have rQ : k_isQ cI mS bx at0 ln sc wQ := rQ
  have rZ : k_isQ cI mZ zb za zl zs wZ := rZ
  have rN : k_isQ cI mN nb na nl ns wN := rN
  have hll : ln.length ≤ 40 := rL.1.1
  have htl : tx.length ≤ 60 := rT.1.1
  obtain ⟨v, hxv⟩ : ∃ v, xs (i + 1) = v := ⟨_, rfl⟩
  obtain ⟨v2, hxv2⟩ : ∃ v2, xs (i + 2) = v2 := ⟨_, rfl⟩
  refine q_eqR (Rs' := [wX, wO, wA, wB, wL, wH, vO, vA, vB, vL, wT, wK, wP, wQ, wZ, wV, wN, wU, wD, [(o, .inl (cJ, 1, .inr (.inl g)))]]) rfl ?_
  by_cases hv : nI 0 ≤ v ∧ v ≤ nI 17
  · obtain ⟨c, hc, rfl⟩ := k_exr hv (by decide) (by decide)
    obtain ⟨aG, nx, fq, gq, Tq, Wq, hatq, h6q, rfl⟩ := rH
    have rHc : k_isH cG cI aY sv (k_Hc cG aY aG nx sv.length fq ++ k_flat Wq 6) := ⟨aG, nx, fq, gq, Tq, Wq, hatq, h6q, rfl⟩
    have rY : k_isY cI aY aG nx sv.length [(aY, .inr (1, [.ref aG, .int (nI nx), .int (nI sv.length)]))] := rfl
    refine q_resp (Rs' := [wX, wO, wA, wB, wL, [(aY, .inr (1, [.ref aG, .int (nI nx), .int (nI sv.length)]))], ((aG, .inl (cG, 6, .inr (.inr (.inr (.inr fq))))) :: k_flat Wq 6), vO, vA, vB, vL, wT, wK, wP, wQ, wZ, wV, wN, wU, wD, [(o, .inl (cJ, 1, .inr (.inl g)))]]) (by simp [k_Hc]) ?_
    refine q_aload_n C dL_law_1043 1044 3 rfl rfl ?_
    refine q_aload_n C dL_law_1044 1045 4 rfl rfl ?_
    refine q_iload C dL_law_1045 1047 0 rfl rfl ?_
    refine q_iconst (v := nI 1) C dL_law_1047 1048 rfl (by decide) ?_
    refine q_iadd (v := nI (i + 1)) C dL_law_1048 1049 rfl (q_nadd (by omega)) ?_
    refine q_sld (v := nI c) C hXb hbl hbA (i + 1) rfl (by omega) (by omega) hxv dL_law_1049 1050 rfl ?_
    refine q_aload_n C dL_law_1050 1051 1 rfl rfl ?_
    refine q_reord [0, 1, 2, 3, 4, 5, 20, 6, 7, 8, 9, 10, 11, 12, 13, 14, 15, 16, 17, 18, 19] (by decide : ([0, 1, 2, 3, 4, 5, 20, 6, 7, 8, 9, 10, 11, 12, 13, 14, 15, 16, 17, 18, 19] : List Nat).Perm (List.range 21)) (Rs' := [wX, wO, wA, wB, wL, [(aY, .inr (1, [.ref aG, .int (nI nx), .int (nI sv.length)]))], [(o, .inl (cJ, 1, .inr (.inl g)))], ((aG, .inl (cG, 6, .inr (.inr (.inr (.inr fq))))) :: k_flat Wq 6), vO, vA, vB, vL, wT, wK, wP, wQ, wZ, wV, wN, wU, wD]) rfl rfl ?_
    refine q_resp (Rs' := [[wX, wO, wA, wB, wL, [(aY, .inr (1, [.ref aG, .int (nI nx), .int (nI sv.length)]))]].flatten, [(o, .inl (cJ, 1, .inr (.inl g)))], ((aG, .inl (cG, 6, .inr (.inr (.inr (.inr fq))))) :: k_flat Wq 6), vO, vA, vB, vL, wT, wK, wP, wQ, wZ, wV, wN, wU, wD]) (by simp) ?_
    refine q_callSW (n := 3) (As := [.ref x, .int (nI c), .ref o]) (rest := []) (Rr := [((aG, .inl (cG, 6, .inr (.inr (.inr (.inr fq))))) :: k_flat Wq 6), vO, vA, vB, vL, wT, wK, wP, wQ, wZ, wV, wN, wU, wD]) C (c_L_count_ok l hZ hJ x o (nI c) (r := k_tc bx at0 ln sc sv.length c) (q_hd (k_isX_recv rX)) (q_Cflat (List.append_nil _).symm (c_X6_count_b l hZ hI hN x aO aY aN hsn aT aK wX rX aB aL aS sc wO rO wA rA bx at0 wB rB ln wL rL aG nx sv.length ([(aY, .inr (1, [.ref aG, .int (nI nx), .int (nI sv.length)]))]) rY c (by omega) (k_Cv_cs (S := (bx, at0, ln, sc)) hIv.2) (k_Cv_ws (S := (bx, at0, ln, sc)) rB.2.1 hIv.2))) (Nat.le_of_ble_eq_true rfl) (Nat.le_of_ble_eq_true rfl) rfl rfl (fun _ _ _ h => h.1) g) gL_law_L_count rfl rfl rfl (by decide +kernel) B.1 ⟨Nat.le_of_ble_eq_true rfl, Nat.le_of_ble_eq_true rfl⟩ rfl rfl (Nat.le_of_ble_eq_true rfl) dL_law_1051 ⟨(by show (80 + i) + 0 ≤ 601024; omega), (by show (6951 + 2 * i) + 0 ≤ 7293034; omega)⟩ [0, 1] [2, 3, 4, 5, 6, 7, 8, 9, 10, 11, 12, 13, 14, 15] (by decide : ([0, 1] ++ ([2, 3, 4, 5, 6, 7, 8, 9, 10, 11, 12, 13, 14, 15] : List Nat)).Perm (List.range 16)) rfl rfl 1054 rfl (fun v0 R0 t0 ht0 hp0 => ?_)
    obtain ⟨rfl, R1, t1, ⟨-, rfl⟩, rfl⟩ := hp0
    refine q_eqs (st' := [.int (nI 0)]) rfl ?_
    refine q_resp (Rs' := [wX, wO, wA, wB, wL, [(aY, .inr (1, [.ref aG, .int (nI nx), .int (nI sv.length)]))], [(o, .inl (cJ, 1, .inr (.inl (va_up g 0 (k_tc bx at0 ln sc sv.length c).toInt64))))], ((aG, .inl (cG, 6, .inr (.inr (.inr (.inr fq))))) :: k_flat Wq 6), vO, vA, vB, vL, wT, wK, wP, wQ, wZ, wV, wN, wU, wD]) (by simp) ?_
    refine q_reord [0, 1, 2, 3, 4, 5, 7, 8, 9, 10, 11, 12, 13, 14, 15, 16, 17, 18, 19, 20, 6] (by decide : ([0, 1, 2, 3, 4, 5, 7, 8, 9, 10, 11, 12, 13, 14, 15, 16, 17, 18, 19, 20, 6] : List Nat).Perm (List.range 21)) (Rs' := [wX, wO, wA, wB, wL, [(aY, .inr (1, [.ref aG, .int (nI nx), .int (nI sv.length)]))], ((aG, .inl (cG, 6, .inr (.inr (.inr (.inr fq))))) :: k_flat Wq 6), vO, vA, vB, vL, wT, wK, wP, wQ, wZ, wV, wN, wU, wD, [(o, .inl (cJ, 1, .inr (.inl (va_up g 0 (k_tc bx at0 ln sc sv.length c).toInt64))))]]) rfl rfl ?_
    refine q_istore C dL_law_1054 1056 rfl [(5, .int (nI 0)), (4, .int (nI i)), (3, .ref o), (2, .ref y), (1, .ref x), (0, .ref b)] (by decide) rfl ?_
    refine q_aload_n C dL_law_1056 1057 3 rfl rfl ?_
    refine q_aload_n C dL_law_1057 1058 5 rfl rfl ?_
    refine q_iload C dL_law_1058 1060 1 rfl rfl ?_
    refine q_iconst (v := nI 1) C dL_law_1060 1061 rfl (by decide) ?_
    refine q_iadd (v := nI (i + 1)) C dL_law_1061 1062 rfl (q_nadd (by omega)) ?_
    refine q_sld (v := nI c) C hXb hbl hbA (i + 1) rfl (by omega) (by omega) hxv dL_law_1062 1063 rfl ?_
    refine q_callV (k := 13) (ci := 6) (n := 1) (rest := []) (Rr := [wX, wO, wA, wB, wL, [(aY, .inr (1, [.ref aG, .int (nI nx), .int (nI sv.length)]))], ((aG, .inl (cG, 6, .inr (.inr (.inr (.inr fq))))) :: k_flat Wq 6), vO, vA, vB, vL, wT, wK, wZ, wV, wN, wU, wD, [(o, .inl (cJ, 1, .inr (.inl (va_up g 0 (k_tc bx at0 ln sc sv.length c).toInt64))))]]) C rfl (k_isP_recv rP) rfl (c_X7_count_b l hZ hI y mS mZ mV mN mU mD fd hh wP rP bx at0 ln sc wQ rQ c sv.length (by omega) hl6 q4) gL_law_X7_count rfl rfl rfl (by decide +kernel) B.1 ⟨Nat.le_of_ble_eq_true rfl, Nat.le_of_ble_eq_true rfl⟩ rfl rfl (Nat.le_of_ble_eq_true rfl) dL_law_1063 ⟨(by show ((80 + i) + 0) + 0 ≤ 601024; omega), (by show ((6951 + 2 * i) + 0) + 0 ≤ 7293034; omega)⟩ [13, 14] [0, 1, 2, 3, 4, 5, 6, 7, 8, 9, 10, 11, 12, 15, 16, 17, 18, 19, 20] (by decide : ([13, 14] ++ ([0, 1, 2, 3, 4, 5, 6, 7, 8, 9, 10, 11, 12, 15, 16, 17, 18, 19, 20] : List Nat)).Perm (List.range 21)) rfl rfl 1066 rfl (fun v0 R0 t0 ht0 hp0 => ?_)
    obtain ⟨rfl, wP_1063, hwP_1063, rfl⟩ := hp0
    refine q_eqs (st' := [.int (k_tc bx at0 ln sc sv.length c)]) rfl ?_
    refine q_reord [2, 3, 4, 5, 6, 7, 8, 9, 10, 11, 12, 13, 14, 0, 1, 15, 16, 17, 18, 19, 20] (by decide : ([2, 3, 4, 5, 6, 7, 8, 9, 10, 11, 12, 13, 14, 0, 1, 15, 16, 17, 18, 19, 20] : List Nat).Perm (List.range 21)) (Rs' := [wX, wO, wA, wB, wL, [(aY, .inr (1, [.ref aG, .int (nI nx), .int (nI sv.length)]))], ((aG, .inl (cG, 6, .inr (.inr (.inr (.inr fq))))) :: k_flat Wq 6), vO, vA, vB, vL, wT, wK, wP_1063, wQ, wZ, wV, wN, wU, wD, [(o, .inl (cJ, 1, .inr (.inl (va_up g 0 (k_tc bx at0 ln sc sv.length c).toInt64))))]]) rfl rfl ?_
    refine q_istore C dL_law_1066 1068 rfl [(6, .int (k_tc bx at0 ln sc sv.length c)), (5, .int (nI 0)), (4, .int (nI i)), (3, .ref o), (2, .ref y), (1, .ref x), (0, .ref b)] (by decide) rfl ?_
    refine q_aload_n C dL_law_1068 1069 4 rfl rfl ?_
    refine q_callV (k := 13) (ci := 6) (n := 0) (rest := []) (Rr := [wX, wO, wA, wB, wL, [(aY, .inr (1, [.ref aG, .int (nI nx), .int (nI sv.length)]))], ((aG, .inl (cG, 6, .inr (.inr (.inr (.inr fq))))) :: k_flat Wq 6), vO, vA, vB, vL, wT, wK, wQ, wZ, wV, wN, wU, wD, [(o, .inl (cJ, 1, .inr (.inl (va_up g 0 (k_tc bx at0 ln sc sv.length c).toInt64))))]]) C rfl (k_isP_recv hwP_1063) rfl (c_X7_thrown l hZ hI y mS mZ mV mN mU mD (upd fd 0 (nI 0)) hh wP_1063 hwP_1063) gL_law_X7_thrown rfl rfl rfl (by decide +kernel) B.1 ⟨Nat.le_of_ble_eq_true rfl, Nat.le_of_ble_eq_true rfl⟩ rfl rfl (Nat.le_of_ble_eq_true rfl) dL_law_1069 ⟨(by show ((80 + i) + 0) + 0 ≤ 601024; omega), (by show ((6951 + 2 * i) + 0) + 0 ≤ 7293034; omega)⟩ [13] [0, 1, 2, 3, 4, 5, 6, 7, 8, 9, 10, 11, 12, 14, 15, 16, 17, 18, 19, 20] (by decide : ([13] ++ ([0, 1, 2, 3, 4, 5, 6, 7, 8, 9, 10, 11, 12, 14, 15, 16, 17, 18, 19, 20] : List Nat)).Perm (List.range 21)) rfl rfl 1072 rfl (fun v0 R0 t0 ht0 hp0 => ?_)
    obtain ⟨rfl, rfl⟩ := hp0
    refine q_eqs (st' := [.int ((upd fd 0 (nI 0)) 0)]) rfl ?_
    refine q_reord [1, 2, 3, 4, 5, 6, 7, 8, 9, 10, 11, 12, 13, 0, 14, 15, 16, 17, 18, 19, 20] (by decide : ([1, 2, 3, 4, 5, 6, 7, 8, 9, 10, 11, 12, 13, 0, 14, 15, 16, 17, 18, 19, 20] : List Nat).Perm (List.range 21)) (Rs' := [wX, wO, wA, wB, wL, [(aY, .inr (1, [.ref aG, .int (nI nx), .int (nI sv.length)]))], ((aG, .inl (cG, 6, .inr (.inr (.inr (.inr fq))))) :: k_flat Wq 6), vO, vA, vB, vL, wT, wK, wP_1063, wQ, wZ, wV, wN, wU, wD, [(o, .inl (cJ, 1, .inr (.inl (va_up g 0 (k_tc bx at0 ln sc sv.length c).toInt64))))]]) rfl rfl ?_
    refine q_eqs (st' := [.int (nI 0)]) (by rw [pk_us]) ?_
    refine q_iload C dL_law_1072 1074 1 rfl rfl ?_
    refine q_icmp_eq C dL_law_1074 1077 1079 rfl (by decide) (nI_eq (by omega) (by omega)) (fun h1074 => ?_) (fun h1074 => False.elim (by first | omega | simp_all))
    refine q_iload C dL_law_1079 1081 1 rfl rfl ?_
    refine q_if_ne C dL_law_1081 1084 1096 rfl (by decide) (q_eq0 (by omega)) (fun h1081 => False.elim (by first | omega | simp_all)) (fun h1081 => ?_)
    refine q_aload_n C dL_law_1084 1085 3 rfl rfl ?_
    refine q_iconst (v := nI 0) C dL_law_1085 1086 rfl (by decide) ?_
    refine q_lald (k := 20) (j := 0) (v := (k_tc bx at0 ln sc sv.length c).toInt64) C dL_law_1086 1087 rfl rfl rfl hJ 0 rfl (by decide) (by decide) k_up_s ?_
    refine q_iload C dL_law_1087 1089 0 rfl rfl ?_
    refine q_i2l (v := ((k_tc bx at0 ln sc sv.length c) : Int32).toInt64) C dL_law_1089 1090 rfl rfl ?_
    refine q_lcmp C dL_law_1090 1091 rfl ?_
    refine q_if_eq C dL_law_1091 1094 1096 rfl (by decide) Iff.rfl (fun h1091 => ?_) (fun h1091 => False.elim (h1091 (lg_self _)))
    refine q_goto C dL_law_1096 1304 (by decide) ?_
    refine q_resp (Rs' := [wX, wO, wA, wB, wL, (k_Hc cG aY aG nx sv.length fq ++ k_flat Wq 6), vO, vA, vB, vL, wT, wK, wP_1063, wQ, wZ, wV, wN, wU, wD, [(o, .inl (cJ, 1, .inr (.inl (va_up g 0 (k_tc bx at0 ln sc sv.length c).toInt64))))]]) (by simp [k_Hc]) ?_
    refine q_sub (L' := [(4, .int (nI i)), (3, .ref o), (2, .ref y), (1, .ref x), (0, .ref b)]) [2, 3, 4, 5, 6] rfl ?_
    refine q_widen (k := 80 + i + 1) (n := 6951 + 2 * i + 6) (by omega) (by omega) ?_
    exact kk _ ⟨(bx, at0, ln, sc), sv, hsn, (sb, sa, sl, ss), (nb, na, nl, ns), tx, upd fd 0 (nI 0), va_up g 0 (k_tc bx at0 ln sc sv.length c).toInt64, _, _, ⟨_, _, _, _, _, _, _, _, _, _, _, _, _, _, _, _, _, _, _, _, _, _, _, _, _, rX, ⟨rO, rA, rB, rL⟩, rHc, ⟨gO, gA, gB, gL⟩, rT, rK, rfl⟩, ⟨_, _, _, _, _, _, _, (zb, za, zl, zs), _, _, _, _, _, _, _, _, _, hwP_1063, rQ, rZ, rV, rN, rU, rD, rfl⟩, hIv, hIs, (by rw [pk_un (by decide)]; exact q4), (by rw [pk_un (by decide)]; exact q8), (k_Sn_eq hsn6 (by rw [pk_un (by decide)])), hl6, rfl⟩
    
  · refine q_aload_n C dL_law_1043 1044 3 rfl rfl ?_
    refine q_aload_n C dL_law_1044 1045 4 rfl rfl ?_
    refine q_iload C dL_law_1045 1047 0 rfl rfl ?_
    refine q_iconst (v := nI 1) C dL_law_1047 1048 rfl (by decide) ?_
    refine q_iadd (v := nI (i + 1)) C dL_law_1048 1049 rfl (q_nadd (by omega)) ?_
    refine q_sld (v := v) C hXb hbl hbA (i + 1) rfl (by omega) (by omega) hxv dL_law_1049 1050 rfl ?_
    refine q_aload_n C dL_law_1050 1051 1 rfl rfl ?_
    refine q_reord [0, 19, 1, 2, 3, 4, 5, 6, 7, 8, 9, 10, 11, 12, 13, 14, 15, 16, 17, 18] (by decide : ([0, 19, 1, 2, 3, 4, 5, 6, 7, 8, 9, 10, 11, 12, 13, 14, 15, 16, 17, 18] : List Nat).Perm (List.range 20)) (Rs' := [wX, [(o, .inl (cJ, 1, .inr (.inl g)))], wO, wA, wB, wL, wH, vO, vA, vB, vL, wT, wK, wP, wQ, wZ, wV, wN, wU, wD]) rfl rfl ?_
    refine q_resp (Rs' := [[wX].flatten, [(o, .inl (cJ, 1, .inr (.inl g)))], wO, wA, wB, wL, wH, vO, vA, vB, vL, wT, wK, wP, wQ, wZ, wV, wN, wU, wD]) (by simp) ?_
    refine q_callSW (n := 3) (As := [.ref x, .int v, .ref o]) (rest := []) (Rr := [wO, wA, wB, wL, wH, vO, vA, vB, vL, wT, wK, wP, wQ, wZ, wV, wN, wU, wD]) C (c_L_count_x1 l hZ hJ hXs x o v (q_hd (k_isX_recv rX)) (q_Xflat (List.append_nil _).symm (c_X6_count_a l hZ hI hN hXs hlT x aO aY aN hsn aT aK wX rX v hv)) (Nat.le_of_ble_eq_true rfl) (Nat.le_of_ble_eq_true rfl) rfl rfl g) gL_law_L_count rfl rfl rfl (by decide +kernel) B.1 ⟨Nat.le_of_ble_eq_true rfl, Nat.le_of_ble_eq_true rfl⟩ rfl rfl (Nat.le_of_ble_eq_true rfl) dL_law_1051 ⟨(by show (80 + i) + 1 ≤ 601024; omega), (by show (6951 + 2 * i) + 6 ≤ 7293034; omega)⟩ [0, 1] [2, 3, 4, 5, 6, 7, 8, 9, 10, 11, 12, 13, 14, 15, 16, 17, 18, 19] (by decide : ([0, 1] ++ ([2, 3, 4, 5, 6, 7, 8, 9, 10, 11, 12, 13, 14, 15, 16, 17, 18, 19] : List Nat)).Perm (List.range 20)) rfl rfl 1054 rfl (fun v0 R0 t0 ht0 hp0 => ?_)
    obtain ⟨rfl, rfl⟩ := hp0
    refine q_eqs (st' := [.int (nI 1)]) rfl ?_
    refine q_resp (Rs' := [wX, [(o, .inl (cJ, 1, .inr (.inl g)))], wO, wA, wB, wL, wH, vO, vA, vB, vL, wT, wK, wP, wQ, wZ, wV, wN, wU, wD]) (by simp) ?_
    refine q_reord [0, 2, 3, 4, 5, 6, 7, 8, 9, 10, 11, 12, 13, 14, 15, 16, 17, 18, 19, 1] (by decide : ([0, 2, 3, 4, 5, 6, 7, 8, 9, 10, 11, 12, 13, 14, 15, 16, 17, 18, 19, 1] : List Nat).Perm (List.range 20)) (Rs' := [wX, wO, wA, wB, wL, wH, vO, vA, vB, vL, wT, wK, wP, wQ, wZ, wV, wN, wU, wD, [(o, .inl (cJ, 1, .inr (.inl g)))]]) rfl rfl ?_
    refine q_istore C dL_law_1054 1056 rfl [(5, .int (nI 1)), (4, .int (nI i)), (3, .ref o), (2, .ref y), (1, .ref x), (0, .ref b)] (by decide) rfl ?_
    refine q_aload_n C dL_law_1056 1057 3 rfl rfl ?_
    refine q_aload_n C dL_law_1057 1058 5 rfl rfl ?_
    refine q_iload C dL_law_1058 1060 1 rfl rfl ?_
    refine q_iconst (v := nI 1) C dL_law_1060 1061 rfl (by decide) ?_
    refine q_iadd (v := nI (i + 1)) C dL_law_1061 1062 rfl (q_nadd (by omega)) ?_
    refine q_sld (v := v) C hXb hbl hbA (i + 1) rfl (by omega) (by omega) hxv dL_law_1062 1063 rfl ?_
    refine q_callV (k := 12) (ci := 6) (n := 1) (rest := []) (Rr := [wX, wO, wA, wB, wL, wH, vO, vA, vB, vL, wT, wK, wQ, wZ, wV, wN, wU, wD, [(o, .inl (cJ, 1, .inr (.inl g)))]]) C rfl (k_isP_recv rP) rfl (c_X7_count_a l hZ hI y mS mZ mV mN mU mD fd hh wP rP v hv) gL_law_X7_count rfl rfl rfl (by decide +kernel) B.1 ⟨Nat.le_of_ble_eq_true rfl, Nat.le_of_ble_eq_true rfl⟩ rfl rfl (Nat.le_of_ble_eq_true rfl) dL_law_1063 ⟨(by show ((80 + i) + 1) + 0 ≤ 601024; omega), (by show ((6951 + 2 * i) + 6) + 0 ≤ 7293034; omega)⟩ [12] [0, 1, 2, 3, 4, 5, 6, 7, 8, 9, 10, 11, 13, 14, 15, 16, 17, 18, 19] (by decide : ([12] ++ ([0, 1, 2, 3, 4, 5, 6, 7, 8, 9, 10, 11, 13, 14, 15, 16, 17, 18, 19] : List Nat)).Perm (List.range 20)) rfl rfl 1066 rfl (fun v0 R0 t0 ht0 hp0 => ?_)
    obtain ⟨rfl, w_1063, hw_1063, rfl⟩ := hp0
    refine q_eqs (st' := [.int (nI 0)]) rfl ?_
    refine q_reord [1, 2, 3, 4, 5, 6, 7, 8, 9, 10, 11, 12, 0, 13, 14, 15, 16, 17, 18, 19] (by decide : ([1, 2, 3, 4, 5, 6, 7, 8, 9, 10, 11, 12, 0, 13, 14, 15, 16, 17, 18, 19] : List Nat).Perm (List.range 20)) (Rs' := [wX, wO, wA, wB, wL, wH, vO, vA, vB, vL, wT, wK, w_1063, wQ, wZ, wV, wN, wU, wD, [(o, .inl (cJ, 1, .inr (.inl g)))]]) rfl rfl ?_
    refine q_istore C dL_law_1066 1068 rfl [(6, .int (nI 0)), (5, .int (nI 1)), (4, .int (nI i)), (3, .ref o), (2, .ref y), (1, .ref x), (0, .ref b)] (by decide) rfl ?_
    refine q_aload_n C dL_law_1068 1069 4 rfl rfl ?_
    refine q_callV (k := 12) (ci := 6) (n := 0) (rest := []) (Rr := [wX, wO, wA, wB, wL, wH, vO, vA, vB, vL, wT, wK, wQ, wZ, wV, wN, wU, wD, [(o, .inl (cJ, 1, .inr (.inl g)))]]) C rfl (k_isP_recv hw_1063) rfl (c_X7_thrown l hZ hI y mS mZ mV mN mU mD (upd (upd fd 0 (nI 0)) 0 (nI 1)) hh w_1063 hw_1063) gL_law_X7_thrown rfl rfl rfl (by decide +kernel) B.1 ⟨Nat.le_of_ble_eq_true rfl, Nat.le_of_ble_eq_true rfl⟩ rfl rfl (Nat.le_of_ble_eq_true rfl) dL_law_1069 ⟨(by show ((80 + i) + 1) + 0 ≤ 601024; omega), (by show ((6951 + 2 * i) + 6) + 0 ≤ 7293034; omega)⟩ [12] [0, 1, 2, 3, 4, 5, 6, 7, 8, 9, 10, 11, 13, 14, 15, 16, 17, 18, 19] (by decide : ([12] ++ ([0, 1, 2, 3, 4, 5, 6, 7, 8, 9, 10, 11, 13, 14, 15, 16, 17, 18, 19] : List Nat)).Perm (List.range 20)) rfl rfl 1072 rfl (fun v0 R0 t0 ht0 hp0 => ?_)
    obtain ⟨rfl, rfl⟩ := hp0
    refine q_eqs (st' := [.int ((upd (upd fd 0 (nI 0)) 0 (nI 1)) 0)]) rfl ?_
    refine q_reord [1, 2, 3, 4, 5, 6, 7, 8, 9, 10, 11, 12, 0, 13, 14, 15, 16, 17, 18, 19] (by decide : ([1, 2, 3, 4, 5, 6, 7, 8, 9, 10, 11, 12, 0, 13, 14, 15, 16, 17, 18, 19] : List Nat).Perm (List.range 20)) (Rs' := [wX, wO, wA, wB, wL, wH, vO, vA, vB, vL, wT, wK, w_1063, wQ, wZ, wV, wN, wU, wD, [(o, .inl (cJ, 1, .inr (.inl g)))]]) rfl rfl ?_
    refine q_eqs (st' := [.int (nI 1)]) (by rw [pk_us]) ?_
    refine q_iload C dL_law_1072 1074 1 rfl rfl ?_
    refine q_icmp_eq C dL_law_1074 1077 1079 rfl (by decide) (nI_eq (by omega) (by omega)) (fun h1074 => ?_) (fun h1074 => False.elim (by first | omega | simp_all))
    refine q_iload C dL_law_1079 1081 1 rfl rfl ?_
    refine q_if_ne C dL_law_1081 1084 1096 rfl (by decide) (q_eq0 (by omega)) (fun h1081 => ?_) (fun h1081 => False.elim (by first | omega | simp_all))
    refine q_goto C dL_law_1096 1304 (by decide) ?_
    refine q_sub (L' := [(4, .int (nI i)), (3, .ref o), (2, .ref y), (1, .ref x), (0, .ref b)]) [2, 3, 4, 5, 6] rfl ?_
    refine q_widen (k := 80 + i + 1) (n := 6951 + 2 * i + 6) (by omega) (by omega) ?_
    exact kk _ ⟨(bx, at0, ln, sc), sv, hsn, (sb, sa, sl, ss), (nb, na, nl, ns), tx, upd (upd fd 0 (nI 0)) 0 (nI 1), g, _, _, ⟨_, _, _, _, _, _, _, _, _, _, _, _, _, _, _, _, _, _, _, _, _, _, _, _, _, rX, ⟨rO, rA, rB, rL⟩, rH, ⟨gO, gA, gB, gL⟩, rT, rK, rfl⟩, ⟨_, _, _, _, _, _, _, (zb, za, zl, zs), _, _, _, _, _, _, _, _, _, hw_1063, rQ, rZ, rV, rN, rU, rD, rfl⟩, hIv, hIs, (by rw [pk_un (by decide), pk_un (by decide)]; exact q4), (by rw [pk_un (by decide), pk_un (by decide)]; exact q8), (k_Sn_eq hsn6 (by rw [pk_un (by decide), pk_un (by decide)])), hl6, rfl⟩
    

set_option maxHeartbeats 1000000 in
set_option maxRecDepth 100000 in
theorem law_c19 {p9 : Program} {l : Launch} {e9 : Env} {R : Room} {s9 : State} {m9 : MethodId} {args : Array Value} {below : List Frame} {meth : Method} {c9 : Code} {Q : State → Prop} {D : va_G} {tys : List (ClassId × FieldType)} {A : Nat → Prop} {Z : (Nat → Prop) → State → Heap → Prop} {b LL : Nat} {xs : Nat → Int32} {x y o i : Nat} {Rs : List va_W} (C : q_C p9 s9 m9 args c9 cL_law 9 wsL_law RL D tys Z A) (hZ : q_St Z) {cI cG cJ : ClassId} (hI : tys[0]? = some (cI, .int)) (hG : tys[1]? = some (cG, .object "SortCases$State")) (hJ : tys[2]? = some (cJ, .long)) (hN : q_Ns Z) {ad aw av : Nat → Nat} {tK : Nat} (hKs : q_Ks Z ad aw av tK) {tL tH : Nat} (hVs : q_Vs Z tL tH) (hXs : q_Xs Z) (hlT : l.stackTraces = false) (hXb : va_X b LL xs s9 s9.heap) (hbl : b < s9.heap.size) (hbA : ¬ A b) (hR : R = ({ frames := 12, cells := 601024, slots := 7293034, locals := 454 } : Room)) (hi : i + 3 ≤ LL) (hL : LL ≤ 1536) (hRs : law_I cG cI cJ x y o Rs) (kk : ∀ Rs', law_I cG cI cJ x y o Rs' → q_V p9 l e9 R s9 m9 args below meth c9 D A 9 Q (80 + i + 1) (6951 + 2 * i + 6) 1304 [(4, .int (nI i)), (3, .ref o), (2, .ref y), (1, .ref x), (0, .ref b)] [] Rs') : q_V p9 l e9 R s9 m9 args below meth c9 D A 9 Q (80 + i) (6951 + 2 * i) 1099 [(4, .int (nI i)), (3, .ref o), (2, .ref y), (1, .ref x), (0, .ref b)] [] Rs := by
  have hcI := hI
  have hcG := hG
  have B : R = ({ frames := 12, cells := 601024, slots := 7293034, locals := 454 } : Room) ∧ True := ⟨hR, trivial⟩
  have hts := C.2.2.2.2.1
  obtain ⟨⟨bx, at0, ln, sc⟩, sv, hsn, ⟨sb, sa, sl, ss⟩, ⟨nb, na, nl, ns⟩, tx, fd, g, R1, R2, ⟨aO, aY, aN, aT, aK, aB, aL, aS, naB, naL, naS, kb, ka, wX, wO, wA, wB, wL, wH, vO, vA, vB, vL, wT, wK, rX, ⟨rO, rA, rB, rL⟩, rH, ⟨gO, gA, gB, gL⟩, rT, rK, rfl⟩, ⟨mS, mZ, mV, mN, mU, mD, hh, ⟨zb, za, zl, zs⟩, dx, ps, wP, wQ, wZ, wV, wN, wU, wD, rP, rQ, rZ, rV, rN, rU, rD, rfl⟩, hIv, hIs, q4, q8, hsn6, hl6, rfl⟩ := hRs
  have rO : k_isO cI aO aB aL aS sc wO := rO
  have rA : k_isA cI aS sc wA := rA
  have rB : k_isB cI aB bx at0 wB := rB
  have rL : k_isL cI aL ln wL := rL
  have gO : k_isO cI aN naB naL naS ss vO := gO
  have gA : k_isA cI naS ss vA := gA
  have gB : k_isB cI naB sb sa vB := gB
  have gL : k_isL cI naL sl vL := gL
  have rQ : k_isQ cI mS bx at0 ln sc wQ := rQ
  have rZ : k_isQ cI mZ zb za zl zs wZ := rZ
  have rN : k_isQ cI mN nb na nl ns wN := rN
  have hll : ln.length ≤ 40 := rL.1.1
  have htl : tx.length ≤ 60 := rT.1.1
  obtain ⟨v, hxv⟩ : ∃ v, xs (i + 1) = v := ⟨_, rfl⟩
  obtain ⟨v2, hxv2⟩ : ∃ v2, xs (i + 2) = v2 := ⟨_, rfl⟩
  refine q_eqR (Rs' := [wX, wO, wA, wB, wL, wH, vO, vA, vB, vL, wT, wK, wP, wQ, wZ, wV, wN, wU, wD, [(o, .inl (cJ, 1, .inr (.inl g)))]]) rfl ?_
  by_cases hv : (0 : Int32) ≤ v ∧ v < 12
  · obtain ⟨c, hc, rfl⟩ := k_ex12 hv
    refine q_aload_n C dL_law_1099 1100 3 rfl rfl ?_
    refine q_aload_n C dL_law_1100 1101 4 rfl rfl ?_
    refine q_iload C dL_law_1101 1103 0 rfl rfl ?_
    refine q_iconst (v := nI 1) C dL_law_1103 1104 rfl (by decide) ?_
    refine q_iadd (v := nI (i + 1)) C dL_law_1104 1105 rfl (q_nadd (by omega)) ?_
    refine q_sld (v := nI c) C hXb hbl hbA (i + 1) rfl (by omega) (by omega) hxv dL_law_1105 1106 rfl ?_
    refine q_aload_n C dL_law_1106 1107 1 rfl rfl ?_
    refine q_reord [0, 1, 2, 3, 4, 19, 5, 6, 7, 8, 9, 10, 11, 12, 13, 14, 15, 16, 17, 18] (by decide : ([0, 1, 2, 3, 4, 19, 5, 6, 7, 8, 9, 10, 11, 12, 13, 14, 15, 16, 17, 18] : List Nat).Perm (List.range 20)) (Rs' := [wX, wO, wA, wB, wL, [(o, .inl (cJ, 1, .inr (.inl g)))], wH, vO, vA, vB, vL, wT, wK, wP, wQ, wZ, wV, wN, wU, wD]) rfl rfl ?_
    refine q_resp (Rs' := [[wX, wO, wA, wB, wL].flatten, [(o, .inl (cJ, 1, .inr (.inl g)))], wH, vO, vA, vB, vL, wT, wK, wP, wQ, wZ, wV, wN, wU, wD]) (by simp) ?_
    refine q_callSW (n := 3) (As := [.ref x, .int (nI c), .ref o]) (rest := []) (Rr := [wH, vO, vA, vB, vL, wT, wK, wP, wQ, wZ, wV, wN, wU, wD]) C (c_L_whyNot_ok l hZ hJ x o (nI c) (r := nI (k_wn bx ln sc c)) (q_hd (k_isX_recv rX)) (q_Cflat (List.append_nil _).symm (c_X6_whyNot_b l hZ hI hN x aO aY aN hsn aT aK wX rX aB aL aS sc wO rO wA rA bx at0 wB rB ln wL rL c (by omega))) (Nat.le_of_ble_eq_true rfl) (Nat.le_of_ble_eq_true rfl) rfl rfl (fun _ _ _ h => h.1) g) gL_law_L_whyNot rfl rfl rfl (by decide +kernel) B.1 ⟨Nat.le_of_ble_eq_true rfl, Nat.le_of_ble_eq_true rfl⟩ rfl rfl (Nat.le_of_ble_eq_true rfl) dL_law_1107 ⟨(by show (80 + i) + 0 ≤ 601024; omega), (by show (6951 + 2 * i) + 0 ≤ 7293034; omega)⟩ [0, 1] [2, 3, 4, 5, 6, 7, 8, 9, 10, 11, 12, 13, 14, 15] (by decide : ([0, 1] ++ ([2, 3, 4, 5, 6, 7, 8, 9, 10, 11, 12, 13, 14, 15] : List Nat)).Perm (List.range 16)) rfl rfl 1110 rfl (fun v0 R0 t0 ht0 hp0 => ?_)
    obtain ⟨rfl, R1, t1, ⟨-, rfl⟩, rfl⟩ := hp0
    refine q_eqs (st' := [.int (nI 0)]) rfl ?_
    refine q_resp (Rs' := [wX, wO, wA, wB, wL, [(o, .inl (cJ, 1, .inr (.inl (va_up g 0 (nI (k_wn bx ln sc c)).toInt64))))], wH, vO, vA, vB, vL, wT, wK, wP, wQ, wZ, wV, wN, wU, wD]) (by simp) ?_
    refine q_reord [0, 1, 2, 3, 4, 6, 7, 8, 9, 10, 11, 12, 13, 14, 15, 16, 17, 18, 19, 5] (by decide : ([0, 1, 2, 3, 4, 6, 7, 8, 9, 10, 11, 12, 13, 14, 15, 16, 17, 18, 19, 5] : List Nat).Perm (List.range 20)) (Rs' := [wX, wO, wA, wB, wL, wH, vO, vA, vB, vL, wT, wK, wP, wQ, wZ, wV, wN, wU, wD, [(o, .inl (cJ, 1, .inr (.inl (va_up g 0 (nI (k_wn bx ln sc c)).toInt64))))]]) rfl rfl ?_
    refine q_istore C dL_law_1110 1112 rfl [(5, .int (nI 0)), (4, .int (nI i)), (3, .ref o), (2, .ref y), (1, .ref x), (0, .ref b)] (by decide) rfl ?_
    refine q_aload_n C dL_law_1112 1113 3 rfl rfl ?_
    refine q_aload_n C dL_law_1113 1114 5 rfl rfl ?_
    refine q_iload C dL_law_1114 1116 1 rfl rfl ?_
    refine q_iconst (v := nI 1) C dL_law_1116 1117 rfl (by decide) ?_
    refine q_iadd (v := nI (i + 1)) C dL_law_1117 1118 rfl (q_nadd (by omega)) ?_
    refine q_sld (v := nI c) C hXb hbl hbA (i + 1) rfl (by omega) (by omega) hxv dL_law_1118 1119 rfl ?_
    refine q_callV (k := 12) (ci := 6) (n := 1) (rest := []) (Rr := [wX, wO, wA, wB, wL, wH, vO, vA, vB, vL, wT, wK, wZ, wV, wN, wU, wD, [(o, .inl (cJ, 1, .inr (.inl (va_up g 0 (nI (k_wn bx ln sc c)).toInt64))))]]) C rfl (k_isP_recv rP) rfl (c_X7_whyNot_b l hZ hI y mS mZ mV mN mU mD fd hh wP rP bx at0 ln sc wQ rQ c (by omega)) gL_law_X7_whyNot rfl rfl rfl (by decide +kernel) B.1 ⟨Nat.le_of_ble_eq_true rfl, Nat.le_of_ble_eq_true rfl⟩ rfl rfl (Nat.le_of_ble_eq_true rfl) dL_law_1119 ⟨(by show ((80 + i) + 0) + 0 ≤ 601024; omega), (by show ((6951 + 2 * i) + 0) + 0 ≤ 7293034; omega)⟩ [12, 13] [0, 1, 2, 3, 4, 5, 6, 7, 8, 9, 10, 11, 14, 15, 16, 17, 18, 19] (by decide : ([12, 13] ++ ([0, 1, 2, 3, 4, 5, 6, 7, 8, 9, 10, 11, 14, 15, 16, 17, 18, 19] : List Nat)).Perm (List.range 20)) rfl rfl 1122 rfl (fun v0 R0 t0 ht0 hp0 => ?_)
    obtain ⟨rfl, wP_1119, hwP_1119, rfl⟩ := hp0
    refine q_eqs (st' := [.int (nI (k_wn bx ln sc c))]) rfl ?_
    refine q_reord [2, 3, 4, 5, 6, 7, 8, 9, 10, 11, 12, 13, 0, 1, 14, 15, 16, 17, 18, 19] (by decide : ([2, 3, 4, 5, 6, 7, 8, 9, 10, 11, 12, 13, 0, 1, 14, 15, 16, 17, 18, 19] : List Nat).Perm (List.range 20)) (Rs' := [wX, wO, wA, wB, wL, wH, vO, vA, vB, vL, wT, wK, wP_1119, wQ, wZ, wV, wN, wU, wD, [(o, .inl (cJ, 1, .inr (.inl (va_up g 0 (nI (k_wn bx ln sc c)).toInt64))))]]) rfl rfl ?_
    refine q_istore C dL_law_1122 1124 rfl [(6, .int (nI (k_wn bx ln sc c))), (5, .int (nI 0)), (4, .int (nI i)), (3, .ref o), (2, .ref y), (1, .ref x), (0, .ref b)] (by decide) rfl ?_
    refine q_aload_n C dL_law_1124 1125 4 rfl rfl ?_
    refine q_callV (k := 12) (ci := 6) (n := 0) (rest := []) (Rr := [wX, wO, wA, wB, wL, wH, vO, vA, vB, vL, wT, wK, wQ, wZ, wV, wN, wU, wD, [(o, .inl (cJ, 1, .inr (.inl (va_up g 0 (nI (k_wn bx ln sc c)).toInt64))))]]) C rfl (k_isP_recv hwP_1119) rfl (c_X7_thrown l hZ hI y mS mZ mV mN mU mD (upd fd 0 (nI 0)) hh wP_1119 hwP_1119) gL_law_X7_thrown rfl rfl rfl (by decide +kernel) B.1 ⟨Nat.le_of_ble_eq_true rfl, Nat.le_of_ble_eq_true rfl⟩ rfl rfl (Nat.le_of_ble_eq_true rfl) dL_law_1125 ⟨(by show ((80 + i) + 0) + 0 ≤ 601024; omega), (by show ((6951 + 2 * i) + 0) + 0 ≤ 7293034; omega)⟩ [12] [0, 1, 2, 3, 4, 5, 6, 7, 8, 9, 10, 11, 13, 14, 15, 16, 17, 18, 19] (by decide : ([12] ++ ([0, 1, 2, 3, 4, 5, 6, 7, 8, 9, 10, 11, 13, 14, 15, 16, 17, 18, 19] : List Nat)).Perm (List.range 20)) rfl rfl 1128 rfl (fun v0 R0 t0 ht0 hp0 => ?_)
    obtain ⟨rfl, rfl⟩ := hp0
    refine q_eqs (st' := [.int ((upd fd 0 (nI 0)) 0)]) rfl ?_
    refine q_reord [1, 2, 3, 4, 5, 6, 7, 8, 9, 10, 11, 12, 0, 13, 14, 15, 16, 17, 18, 19] (by decide : ([1, 2, 3, 4, 5, 6, 7, 8, 9, 10, 11, 12, 0, 13, 14, 15, 16, 17, 18, 19] : List Nat).Perm (List.range 20)) (Rs' := [wX, wO, wA, wB, wL, wH, vO, vA, vB, vL, wT, wK, wP_1119, wQ, wZ, wV, wN, wU, wD, [(o, .inl (cJ, 1, .inr (.inl (va_up g 0 (nI (k_wn bx ln sc c)).toInt64))))]]) rfl rfl ?_
    refine q_eqs (st' := [.int (nI 0)]) (by rw [pk_us]) ?_
    refine q_iload C dL_law_1128 1130 1 rfl rfl ?_
    refine q_icmp_eq C dL_law_1130 1133 1135 rfl (by decide) (nI_eq (by omega) (by omega)) (fun h1130 => ?_) (fun h1130 => False.elim (by first | omega | simp_all))
    refine q_iload C dL_law_1135 1137 1 rfl rfl ?_
    refine q_if_ne C dL_law_1137 1140 1152 rfl (by decide) (q_eq0 (by omega)) (fun h1137 => False.elim (by first | omega | simp_all)) (fun h1137 => ?_)
    refine q_aload_n C dL_law_1140 1141 3 rfl rfl ?_
    refine q_iconst (v := nI 0) C dL_law_1141 1142 rfl (by decide) ?_
    refine q_lald (k := 19) (j := 0) (v := (nI (k_wn bx ln sc c)).toInt64) C dL_law_1142 1143 rfl rfl rfl hJ 0 rfl (by decide) (by decide) k_up_s ?_
    refine q_iload C dL_law_1143 1145 0 rfl rfl ?_
    refine q_i2l (v := ((nI (k_wn bx ln sc c)) : Int32).toInt64) C dL_law_1145 1146 rfl rfl ?_
    refine q_lcmp C dL_law_1146 1147 rfl ?_
    refine q_if_eq C dL_law_1147 1150 1152 rfl (by decide) Iff.rfl (fun h1147 => ?_) (fun h1147 => False.elim (h1147 (lg_self _)))
    refine q_goto C dL_law_1152 1304 (by decide) ?_
    refine q_sub (L' := [(4, .int (nI i)), (3, .ref o), (2, .ref y), (1, .ref x), (0, .ref b)]) [2, 3, 4, 5, 6] rfl ?_
    refine q_widen (k := 80 + i + 1) (n := 6951 + 2 * i + 6) (by omega) (by omega) ?_
    exact kk _ ⟨(bx, at0, ln, sc), sv, hsn, (sb, sa, sl, ss), (nb, na, nl, ns), tx, upd fd 0 (nI 0), va_up g 0 (nI (k_wn bx ln sc c)).toInt64, _, _, ⟨_, _, _, _, _, _, _, _, _, _, _, _, _, _, _, _, _, _, _, _, _, _, _, _, _, rX, ⟨rO, rA, rB, rL⟩, rH, ⟨gO, gA, gB, gL⟩, rT, rK, rfl⟩, ⟨_, _, _, _, _, _, _, (zb, za, zl, zs), _, _, _, _, _, _, _, _, _, hwP_1119, rQ, rZ, rV, rN, rU, rD, rfl⟩, hIv, hIs, (by rw [pk_un (by decide)]; exact q4), (by rw [pk_un (by decide)]; exact q8), (k_Sn_eq hsn6 (by rw [pk_un (by decide)])), hl6, rfl⟩
    
  · refine q_aload_n C dL_law_1099 1100 3 rfl rfl ?_
    refine q_aload_n C dL_law_1100 1101 4 rfl rfl ?_
    refine q_iload C dL_law_1101 1103 0 rfl rfl ?_
    refine q_iconst (v := nI 1) C dL_law_1103 1104 rfl (by decide) ?_
    refine q_iadd (v := nI (i + 1)) C dL_law_1104 1105 rfl (q_nadd (by omega)) ?_
    refine q_sld (v := v) C hXb hbl hbA (i + 1) rfl (by omega) (by omega) hxv dL_law_1105 1106 rfl ?_
    refine q_aload_n C dL_law_1106 1107 1 rfl rfl ?_
    refine q_reord [0, 19, 1, 2, 3, 4, 5, 6, 7, 8, 9, 10, 11, 12, 13, 14, 15, 16, 17, 18] (by decide : ([0, 19, 1, 2, 3, 4, 5, 6, 7, 8, 9, 10, 11, 12, 13, 14, 15, 16, 17, 18] : List Nat).Perm (List.range 20)) (Rs' := [wX, [(o, .inl (cJ, 1, .inr (.inl g)))], wO, wA, wB, wL, wH, vO, vA, vB, vL, wT, wK, wP, wQ, wZ, wV, wN, wU, wD]) rfl rfl ?_
    refine q_resp (Rs' := [[wX].flatten, [(o, .inl (cJ, 1, .inr (.inl g)))], wO, wA, wB, wL, wH, vO, vA, vB, vL, wT, wK, wP, wQ, wZ, wV, wN, wU, wD]) (by simp) ?_
    refine q_callSW (n := 3) (As := [.ref x, .int v, .ref o]) (rest := []) (Rr := [wO, wA, wB, wL, wH, vO, vA, vB, vL, wT, wK, wP, wQ, wZ, wV, wN, wU, wD]) C (c_L_whyNot_x1 l hZ hJ hXs x o v (q_hd (k_isX_recv rX)) (q_Xflat (List.append_nil _).symm (c_X6_whyNot_a l hZ hI hN hXs hlT x aO aY aN hsn aT aK wX rX v hv)) (Nat.le_of_ble_eq_true rfl) (Nat.le_of_ble_eq_true rfl) rfl rfl g) gL_law_L_whyNot rfl rfl rfl (by decide +kernel) B.1 ⟨Nat.le_of_ble_eq_true rfl, Nat.le_of_ble_eq_true rfl⟩ rfl rfl (Nat.le_of_ble_eq_true rfl) dL_law_1107 ⟨(by show (80 + i) + 1 ≤ 601024; omega), (by show (6951 + 2 * i) + 6 ≤ 7293034; omega)⟩ [0, 1] [2, 3, 4, 5, 6, 7, 8, 9, 10, 11, 12, 13, 14, 15, 16, 17, 18, 19] (by decide : ([0, 1] ++ ([2, 3, 4, 5, 6, 7, 8, 9, 10, 11, 12, 13, 14, 15, 16, 17, 18, 19] : List Nat)).Perm (List.range 20)) rfl rfl 1110 rfl (fun v0 R0 t0 ht0 hp0 => ?_)
    obtain ⟨rfl, rfl⟩ := hp0
    refine q_eqs (st' := [.int (nI 1)]) rfl ?_
    refine q_resp (Rs' := [wX, [(o, .inl (cJ, 1, .inr (.inl g)))], wO, wA, wB, wL, wH, vO, vA, vB, vL, wT, wK, wP, wQ, wZ, wV, wN, wU, wD]) (by simp) ?_
    refine q_reord [0, 2, 3, 4, 5, 6, 7, 8, 9, 10, 11, 12, 13, 14, 15, 16, 17, 18, 19, 1] (by decide : ([0, 2, 3, 4, 5, 6, 7, 8, 9, 10, 11, 12, 13, 14, 15, 16, 17, 18, 19, 1] : List Nat).Perm (List.range 20)) (Rs' := [wX, wO, wA, wB, wL, wH, vO, vA, vB, vL, wT, wK, wP, wQ, wZ, wV, wN, wU, wD, [(o, .inl (cJ, 1, .inr (.inl g)))]]) rfl rfl ?_
    refine q_istore C dL_law_1110 1112 rfl [(5, .int (nI 1)), (4, .int (nI i)), (3, .ref o), (2, .ref y), (1, .ref x), (0, .ref b)] (by decide) rfl ?_
    refine q_aload_n C dL_law_1112 1113 3 rfl rfl ?_
    refine q_aload_n C dL_law_1113 1114 5 rfl rfl ?_
    refine q_iload C dL_law_1114 1116 1 rfl rfl ?_
    refine q_iconst (v := nI 1) C dL_law_1116 1117 rfl (by decide) ?_
    refine q_iadd (v := nI (i + 1)) C dL_law_1117 1118 rfl (q_nadd (by omega)) ?_
    refine q_sld (v := v) C hXb hbl hbA (i + 1) rfl (by omega) (by omega) hxv dL_law_1118 1119 rfl ?_
    refine q_callV (k := 12) (ci := 6) (n := 1) (rest := []) (Rr := [wX, wO, wA, wB, wL, wH, vO, vA, vB, vL, wT, wK, wQ, wZ, wV, wN, wU, wD, [(o, .inl (cJ, 1, .inr (.inl g)))]]) C rfl (k_isP_recv rP) rfl (c_X7_whyNot_a l hZ hI y mS mZ mV mN mU mD fd hh wP rP v (k_nb12 hv)) gL_law_X7_whyNot rfl rfl rfl (by decide +kernel) B.1 ⟨Nat.le_of_ble_eq_true rfl, Nat.le_of_ble_eq_true rfl⟩ rfl rfl (Nat.le_of_ble_eq_true rfl) dL_law_1119 ⟨(by show ((80 + i) + 1) + 0 ≤ 601024; omega), (by show ((6951 + 2 * i) + 6) + 0 ≤ 7293034; omega)⟩ [12] [0, 1, 2, 3, 4, 5, 6, 7, 8, 9, 10, 11, 13, 14, 15, 16, 17, 18, 19] (by decide : ([12] ++ ([0, 1, 2, 3, 4, 5, 6, 7, 8, 9, 10, 11, 13, 14, 15, 16, 17, 18, 19] : List Nat)).Perm (List.range 20)) rfl rfl 1122 rfl (fun v0 R0 t0 ht0 hp0 => ?_)
    obtain ⟨rfl, w_1119, hw_1119, rfl⟩ := hp0
    refine q_eqs (st' := [.int (nI 0)]) rfl ?_
    refine q_reord [1, 2, 3, 4, 5, 6, 7, 8, 9, 10, 11, 12, 0, 13, 14, 15, 16, 17, 18, 19] (by decide : ([1, 2, 3, 4, 5, 6, 7, 8, 9, 10, 11, 12, 0, 13, 14, 15, 16, 17, 18, 19] : List Nat).Perm (List.range 20)) (Rs' := [wX, wO, wA, wB, wL, wH, vO, vA, vB, vL, wT, wK, w_1119, wQ, wZ, wV, wN, wU, wD, [(o, .inl (cJ, 1, .inr (.inl g)))]]) rfl rfl ?_
    refine q_istore C dL_law_1122 1124 rfl [(6, .int (nI 0)), (5, .int (nI 1)), (4, .int (nI i)), (3, .ref o), (2, .ref y), (1, .ref x), (0, .ref b)] (by decide) rfl ?_
    refine q_aload_n C dL_law_1124 1125 4 rfl rfl ?_
    refine q_callV (k := 12) (ci := 6) (n := 0) (rest := []) (Rr := [wX, wO, wA, wB, wL, wH, vO, vA, vB, vL, wT, wK, wQ, wZ, wV, wN, wU, wD, [(o, .inl (cJ, 1, .inr (.inl g)))]]) C rfl (k_isP_recv hw_1119) rfl (c_X7_thrown l hZ hI y mS mZ mV mN mU mD (upd (upd fd 0 (nI 0)) 0 (nI 1)) hh w_1119 hw_1119) gL_law_X7_thrown rfl rfl rfl (by decide +kernel) B.1 ⟨Nat.le_of_ble_eq_true rfl, Nat.le_of_ble_eq_true rfl⟩ rfl rfl (Nat.le_of_ble_eq_true rfl) dL_law_1125 ⟨(by show ((80 + i) + 1) + 0 ≤ 601024; omega), (by show ((6951 + 2 * i) + 6) + 0 ≤ 7293034; omega)⟩ [12] [0, 1, 2, 3, 4, 5, 6, 7, 8, 9, 10, 11, 13, 14, 15, 16, 17, 18, 19] (by decide : ([12] ++ ([0, 1, 2, 3, 4, 5, 6, 7, 8, 9, 10, 11, 13, 14, 15, 16, 17, 18, 19] : List Nat)).Perm (List.range 20)) rfl rfl 1128 rfl (fun v0 R0 t0 ht0 hp0 => ?_)
    obtain ⟨rfl, rfl⟩ := hp0
    refine q_eqs (st' := [.int ((upd (upd fd 0 (nI 0)) 0 (nI 1)) 0)]) rfl ?_
    refine q_reord [1, 2, 3, 4, 5, 6, 7, 8, 9, 10, 11, 12, 0, 13, 14, 15, 16, 17, 18, 19] (by decide : ([1, 2, 3, 4, 5, 6, 7, 8, 9, 10, 11, 12, 0, 13, 14, 15, 16, 17, 18, 19] : List Nat).Perm (List.range 20)) (Rs' := [wX, wO, wA, wB, wL, wH, vO, vA, vB, vL, wT, wK, w_1119, wQ, wZ, wV, wN, wU, wD, [(o, .inl (cJ, 1, .inr (.inl g)))]]) rfl rfl ?_
    refine q_eqs (st' := [.int (nI 1)]) (by rw [pk_us]) ?_
    refine q_iload C dL_law_1128 1130 1 rfl rfl ?_
    refine q_icmp_eq C dL_law_1130 1133 1135 rfl (by decide) (nI_eq (by omega) (by omega)) (fun h1130 => ?_) (fun h1130 => False.elim (by first | omega | simp_all))
    refine q_iload C dL_law_1135 1137 1 rfl rfl ?_
    refine q_if_ne C dL_law_1137 1140 1152 rfl (by decide) (q_eq0 (by omega)) (fun h1137 => ?_) (fun h1137 => False.elim (by first | omega | simp_all))
    refine q_goto C dL_law_1152 1304 (by decide) ?_
    refine q_sub (L' := [(4, .int (nI i)), (3, .ref o), (2, .ref y), (1, .ref x), (0, .ref b)]) [2, 3, 4, 5, 6] rfl ?_
    refine q_widen (k := 80 + i + 1) (n := 6951 + 2 * i + 6) (by omega) (by omega) ?_
    exact kk _ ⟨(bx, at0, ln, sc), sv, hsn, (sb, sa, sl, ss), (nb, na, nl, ns), tx, upd (upd fd 0 (nI 0)) 0 (nI 1), g, _, _, ⟨_, _, _, _, _, _, _, _, _, _, _, _, _, _, _, _, _, _, _, _, _, _, _, _, _, rX, ⟨rO, rA, rB, rL⟩, rH, ⟨gO, gA, gB, gL⟩, rT, rK, rfl⟩, ⟨_, _, _, _, _, _, _, (zb, za, zl, zs), _, _, _, _, _, _, _, _, _, hw_1119, rQ, rZ, rV, rN, rU, rD, rfl⟩, hIv, hIs, (by rw [pk_un (by decide), pk_un (by decide)]; exact q4), (by rw [pk_un (by decide), pk_un (by decide)]; exact q8), (k_Sn_eq hsn6 (by rw [pk_un (by decide), pk_un (by decide)])), hl6, rfl⟩
    

set_option maxHeartbeats 1000000 in
set_option maxRecDepth 100000 in
theorem law_c20 {p9 : Program} {l : Launch} {e9 : Env} {R : Room} {s9 : State} {m9 : MethodId} {args : Array Value} {below : List Frame} {meth : Method} {c9 : Code} {Q : State → Prop} {D : va_G} {tys : List (ClassId × FieldType)} {A : Nat → Prop} {Z : (Nat → Prop) → State → Heap → Prop} {b LL : Nat} {xs : Nat → Int32} {x y o i : Nat} {Rs : List va_W} (C : q_C p9 s9 m9 args c9 cL_law 9 wsL_law RL D tys Z A) (hZ : q_St Z) {cI cG cJ : ClassId} (hI : tys[0]? = some (cI, .int)) (hG : tys[1]? = some (cG, .object "SortCases$State")) (hJ : tys[2]? = some (cJ, .long)) (hN : q_Ns Z) {ad aw av : Nat → Nat} {tK : Nat} (hKs : q_Ks Z ad aw av tK) {tL tH : Nat} (hVs : q_Vs Z tL tH) (hXs : q_Xs Z) (hlT : l.stackTraces = false) (hXb : va_X b LL xs s9 s9.heap) (hbl : b < s9.heap.size) (hbA : ¬ A b) (hR : R = ({ frames := 12, cells := 601024, slots := 7293034, locals := 454 } : Room)) (hi : i + 3 ≤ LL) (hL : LL ≤ 1536) (hRs : law_I cG cI cJ x y o Rs) (kk : ∀ Rs', law_I cG cI cJ x y o Rs' → q_V p9 l e9 R s9 m9 args below meth c9 D A 9 Q (80 + i + 1) (6951 + 2 * i + 6) 1304 [(4, .int (nI i)), (3, .ref o), (2, .ref y), (1, .ref x), (0, .ref b)] [] Rs') : q_V p9 l e9 R s9 m9 args below meth c9 D A 9 Q (80 + i) (6951 + 2 * i) 1155 [(4, .int (nI i)), (3, .ref o), (2, .ref y), (1, .ref x), (0, .ref b)] [] Rs := by
  have hcI := hI
  have hcG := hG
  have B : R = ({ frames := 12, cells := 601024, slots := 7293034, locals := 454 } : Room) ∧ True := ⟨hR, trivial⟩
  have hts := C.2.2.2.2.1
  obtain ⟨⟨bx, at0, ln, sc⟩, sv, hsn, ⟨sb, sa, sl, ss⟩, ⟨nb, na, nl, ns⟩, tx, fd, g, R1, R2, ⟨aO, aY, aN, aT, aK, aB, aL, aS, naB, naL, naS, kb, ka, wX, wO, wA, wB, wL, wH, vO, vA, vB, vL, wT, wK, rX, ⟨rO, rA, rB, rL⟩, rH, ⟨gO, gA, gB, gL⟩, rT, rK, rfl⟩, ⟨mS, mZ, mV, mN, mU, mD, hh, ⟨zb, za, zl, zs⟩, dx, ps, wP, wQ, wZ, wV, wN, wU, wD, rP, rQ, rZ, rV, rN, rU, rD, rfl⟩, hIv, hIs, q4, q8, hsn6, hl6, rfl⟩ := hRs
  have rO : k_isO cI aO aB aL aS sc wO := rO
  have rA : k_isA cI aS sc wA := rA
  have rB : k_isB cI aB bx at0 wB := rB
  have rL : k_isL cI aL ln wL := rL
  have gO : k_isO cI aN naB naL naS ss vO := gO
  have gA : k_isA cI naS ss vA := gA
  have gB : k_isB cI naB sb sa vB := gB
  have gL : k_isL cI naL sl vL := gL
  have rQ : k_isQ cI mS bx at0 ln sc wQ := rQ
  have rZ : k_isQ cI mZ zb za zl zs wZ := rZ
  have rN : k_isQ cI mN nb na nl ns wN := rN
  have hll : ln.length ≤ 40 := rL.1.1
  have htl : tx.length ≤ 60 := rT.1.1
  obtain ⟨v, hxv⟩ : ∃ v, xs (i + 1) = v := ⟨_, rfl⟩
  obtain ⟨v2, hxv2⟩ : ∃ v2, xs (i + 2) = v2 := ⟨_, rfl⟩
  refine q_eqR (Rs' := [wX, wO, wA, wB, wL, wH, vO, vA, vB, vL, wT, wK, wP, wQ, wZ, wV, wN, wU, wD, [(o, .inl (cJ, 1, .inr (.inl g)))]]) rfl ?_
  by_cases hv : (0 : Int32) ≤ v ∧ v < 12
  · obtain ⟨c, hc, rfl⟩ := k_ex12 hv
    by_cases hv2 : nI 1 ≤ v2 ∧ v2 ≤ nI 20
    · obtain ⟨c2, hc2, rfl⟩ := k_exr hv2 (by decide) (by decide)
      refine q_aload_n C dL_law_1155 1156 3 rfl rfl ?_
      refine q_aload_n C dL_law_1156 1157 4 rfl rfl ?_
      refine q_iload C dL_law_1157 1159 0 rfl rfl ?_
      refine q_iconst (v := nI 1) C dL_law_1159 1160 rfl (by decide) ?_
      refine q_iadd (v := nI (i + 1)) C dL_law_1160 1161 rfl (q_nadd (by omega)) ?_
      refine q_sld (v := nI c) C hXb hbl hbA (i + 1) rfl (by omega) (by omega) hxv dL_law_1161 1162 rfl ?_
      refine q_aload_n C dL_law_1162 1163 4 rfl rfl ?_
      refine q_iload C dL_law_1163 1165 0 rfl rfl ?_
      refine q_iconst (v := nI 2) C dL_law_1165 1166 rfl (by decide) ?_
      refine q_iadd (v := nI (i + 2)) C dL_law_1166 1167 rfl (q_nadd (by omega)) ?_
      refine q_sld (v := nI c2) C hXb hbl hbA (i + 2) rfl (by omega) (by omega) hxv2 dL_law_1167 1168 rfl ?_
      refine q_aload_n C dL_law_1168 1169 1 rfl rfl ?_
      refine q_reord [0, 1, 2, 3, 4, 19, 5, 6, 7, 8, 9, 10, 11, 12, 13, 14, 15, 16, 17, 18] (by decide : ([0, 1, 2, 3, 4, 19, 5, 6, 7, 8, 9, 10, 11, 12, 13, 14, 15, 16, 17, 18] : List Nat).Perm (List.range 20)) (Rs' := [wX, wO, wA, wB, wL, [(o, .inl (cJ, 1, .inr (.inl g)))], wH, vO, vA, vB, vL, wT, wK, wP, wQ, wZ, wV, wN, wU, wD]) rfl rfl ?_
      refine q_resp (Rs' := [[wX, wO, wA, wB, wL].flatten, [(o, .inl (cJ, 1, .inr (.inl g)))], wH, vO, vA, vB, vL, wT, wK, wP, wQ, wZ, wV, wN, wU, wD]) (by simp) ?_
      refine q_callSW (n := 4) (As := [.ref x, .int (nI c), .int (nI c2), .ref o]) (rest := []) (Rr := [wH, vO, vA, vB, vL, wT, wK, wP, wQ, wZ, wV, wN, wU, wD]) C (c_L_ifSet_ok l hZ hJ x o (nI c) (nI c2) (r := nI (k_ie bx ln sc c c2)) (q_hd (k_isX_recv rX)) (q_Cflat (List.append_nil _).symm (c_X6_ifSet_c l hZ hI hN x aO aY aN hsn aT aK wX rX aB aL aS sc wO rO wA rA bx at0 wB rB ln wL rL c c2 (by omega) (by omega) (by omega))) (Nat.le_of_ble_eq_true rfl) (Nat.le_of_ble_eq_true rfl) rfl rfl (fun _ _ _ h => h.1) g) gL_law_L_ifSet rfl rfl rfl (by decide +kernel) B.1 ⟨Nat.le_of_ble_eq_true rfl, Nat.le_of_ble_eq_true rfl⟩ rfl rfl (Nat.le_of_ble_eq_true rfl) dL_law_1169 ⟨(by show (80 + i) + 0 ≤ 601024; omega), (by show (6951 + 2 * i) + 0 ≤ 7293034; omega)⟩ [0, 1] [2, 3, 4, 5, 6, 7, 8, 9, 10, 11, 12, 13, 14, 15] (by decide : ([0, 1] ++ ([2, 3, 4, 5, 6, 7, 8, 9, 10, 11, 12, 13, 14, 15] : List Nat)).Perm (List.range 16)) rfl rfl 1172 rfl (fun v0 R0 t0 ht0 hp0 => ?_)
      obtain ⟨rfl, R1, t1, ⟨-, rfl⟩, rfl⟩ := hp0
      refine q_eqs (st' := [.int (nI 0)]) rfl ?_
      refine q_resp (Rs' := [wX, wO, wA, wB, wL, [(o, .inl (cJ, 1, .inr (.inl (va_up g 0 (nI (k_ie bx ln sc c c2)).toInt64))))], wH, vO, vA, vB, vL, wT, wK, wP, wQ, wZ, wV, wN, wU, wD]) (by simp) ?_
      refine q_reord [0, 1, 2, 3, 4, 6, 7, 8, 9, 10, 11, 12, 13, 14, 15, 16, 17, 18, 19, 5] (by decide : ([0, 1, 2, 3, 4, 6, 7, 8, 9, 10, 11, 12, 13, 14, 15, 16, 17, 18, 19, 5] : List Nat).Perm (List.range 20)) (Rs' := [wX, wO, wA, wB, wL, wH, vO, vA, vB, vL, wT, wK, wP, wQ, wZ, wV, wN, wU, wD, [(o, .inl (cJ, 1, .inr (.inl (va_up g 0 (nI (k_ie bx ln sc c c2)).toInt64))))]]) rfl rfl ?_
      refine q_istore C dL_law_1172 1174 rfl [(5, .int (nI 0)), (4, .int (nI i)), (3, .ref o), (2, .ref y), (1, .ref x), (0, .ref b)] (by decide) rfl ?_
      refine q_aload_n C dL_law_1174 1175 3 rfl rfl ?_
      refine q_aload_n C dL_law_1175 1176 5 rfl rfl ?_
      refine q_iload C dL_law_1176 1178 1 rfl rfl ?_
      refine q_iconst (v := nI 1) C dL_law_1178 1179 rfl (by decide) ?_
      refine q_iadd (v := nI (i + 1)) C dL_law_1179 1180 rfl (q_nadd (by omega)) ?_
      refine q_sld (v := nI c) C hXb hbl hbA (i + 1) rfl (by omega) (by omega) hxv dL_law_1180 1181 rfl ?_
      refine q_aload_n C dL_law_1181 1182 5 rfl rfl ?_
      refine q_iload C dL_law_1182 1184 1 rfl rfl ?_
      refine q_iconst (v := nI 2) C dL_law_1184 1185 rfl (by decide) ?_
      refine q_iadd (v := nI (i + 2)) C dL_law_1185 1186 rfl (q_nadd (by omega)) ?_
      refine q_sld (v := nI c2) C hXb hbl hbA (i + 2) rfl (by omega) (by omega) hxv2 dL_law_1186 1187 rfl ?_
      refine q_callV (k := 12) (ci := 6) (n := 2) (rest := []) (Rr := [wX, wO, wA, wB, wL, wH, vO, vA, vB, vL, wT, wK, wV, wN, wU, wD, [(o, .inl (cJ, 1, .inr (.inl (va_up g 0 (nI (k_ie bx ln sc c c2)).toInt64))))]]) C rfl (k_isP_recv rP) rfl (c_X7_ifSet_c l hZ hI y mS mZ mV mN mU mD fd hh wP rP bx at0 ln sc wQ rQ zb za zl zs wZ rZ c c2 (by omega) (by omega) (by omega) hIv.1.2.1 hIv.1.2.2.1 hIv.1.2.2.2) gL_law_X7_ifSet rfl rfl rfl (by decide +kernel) B.1 ⟨Nat.le_of_ble_eq_true rfl, Nat.le_of_ble_eq_true rfl⟩ rfl rfl (Nat.le_of_ble_eq_true rfl) dL_law_1187 ⟨(by show ((80 + i) + 0) + 0 ≤ 601024; omega), (by show ((6951 + 2 * i) + 0) + 0 ≤ 7293034; omega)⟩ [12, 13, 14] [0, 1, 2, 3, 4, 5, 6, 7, 8, 9, 10, 11, 15, 16, 17, 18, 19] (by decide : ([12, 13, 14] ++ ([0, 1, 2, 3, 4, 5, 6, 7, 8, 9, 10, 11, 15, 16, 17, 18, 19] : List Nat)).Perm (List.range 20)) rfl rfl 1190 rfl (fun v0 R0 t0 ht0 hp0 => ?_)
      obtain ⟨rfl, wP_1187, hwP_1187, wQ_1187, hwQ_1187, wz_1187, hwz_1187, rfl⟩ := hp0
      refine q_eqs (st' := [.int (nI (k_ie bx ln sc c c2))]) rfl ?_
      refine q_reord [3, 4, 5, 6, 7, 8, 9, 10, 11, 12, 13, 14, 0, 1, 2, 15, 16, 17, 18, 19] (by decide : ([3, 4, 5, 6, 7, 8, 9, 10, 11, 12, 13, 14, 0, 1, 2, 15, 16, 17, 18, 19] : List Nat).Perm (List.range 20)) (Rs' := [wX, wO, wA, wB, wL, wH, vO, vA, vB, vL, wT, wK, wP_1187, wQ_1187, wz_1187, wV, wN, wU, wD, [(o, .inl (cJ, 1, .inr (.inl (va_up g 0 (nI (k_ie bx ln sc c c2)).toInt64))))]]) rfl rfl ?_
      refine q_istore C dL_law_1190 1192 rfl [(6, .int (nI (k_ie bx ln sc c c2))), (5, .int (nI 0)), (4, .int (nI i)), (3, .ref o), (2, .ref y), (1, .ref x), (0, .ref b)] (by decide) rfl ?_
      refine q_aload_n C dL_law_1192 1193 4 rfl rfl ?_
      refine q_callV (k := 12) (ci := 6) (n := 0) (rest := []) (Rr := [wX, wO, wA, wB, wL, wH, vO, vA, vB, vL, wT, wK, wQ_1187, wz_1187, wV, wN, wU, wD, [(o, .inl (cJ, 1, .inr (.inl (va_up g 0 (nI (k_ie bx ln sc c c2)).toInt64))))]]) C rfl (k_isP_recv hwP_1187) rfl (c_X7_thrown l hZ hI y mS mZ mV mN mU mD (upd fd 0 (nI 0)) hh wP_1187 hwP_1187) gL_law_X7_thrown rfl rfl rfl (by decide +kernel) B.1 ⟨Nat.le_of_ble_eq_true rfl, Nat.le_of_ble_eq_true rfl⟩ rfl rfl (Nat.le_of_ble_eq_true rfl) dL_law_1193 ⟨(by show ((80 + i) + 0) + 0 ≤ 601024; omega), (by show ((6951 + 2 * i) + 0) + 0 ≤ 7293034; omega)⟩ [12] [0, 1, 2, 3, 4, 5, 6, 7, 8, 9, 10, 11, 13, 14, 15, 16, 17, 18, 19] (by decide : ([12] ++ ([0, 1, 2, 3, 4, 5, 6, 7, 8, 9, 10, 11, 13, 14, 15, 16, 17, 18, 19] : List Nat)).Perm (List.range 20)) rfl rfl 1196 rfl (fun v0 R0 t0 ht0 hp0 => ?_)
      obtain ⟨rfl, rfl⟩ := hp0
      refine q_eqs (st' := [.int ((upd fd 0 (nI 0)) 0)]) rfl ?_
      refine q_reord [1, 2, 3, 4, 5, 6, 7, 8, 9, 10, 11, 12, 0, 13, 14, 15, 16, 17, 18, 19] (by decide : ([1, 2, 3, 4, 5, 6, 7, 8, 9, 10, 11, 12, 0, 13, 14, 15, 16, 17, 18, 19] : List Nat).Perm (List.range 20)) (Rs' := [wX, wO, wA, wB, wL, wH, vO, vA, vB, vL, wT, wK, wP_1187, wQ_1187, wz_1187, wV, wN, wU, wD, [(o, .inl (cJ, 1, .inr (.inl (va_up g 0 (nI (k_ie bx ln sc c c2)).toInt64))))]]) rfl rfl ?_
      refine q_eqs (st' := [.int (nI 0)]) (by rw [pk_us]) ?_
      refine q_iload C dL_law_1196 1198 1 rfl rfl ?_
      refine q_icmp_eq C dL_law_1198 1201 1203 rfl (by decide) (nI_eq (by omega) (by omega)) (fun h1198 => ?_) (fun h1198 => False.elim (by first | omega | simp_all))
      refine q_iload C dL_law_1203 1205 1 rfl rfl ?_
      refine q_if_ne C dL_law_1205 1208 1220 rfl (by decide) (q_eq0 (by omega)) (fun h1205 => False.elim (by first | omega | simp_all)) (fun h1205 => ?_)
      refine q_aload_n C dL_law_1208 1209 3 rfl rfl ?_
      refine q_iconst (v := nI 0) C dL_law_1209 1210 rfl (by decide) ?_
      refine q_lald (k := 19) (j := 0) (v := (nI (k_ie bx ln sc c c2)).toInt64) C dL_law_1210 1211 rfl rfl rfl hJ 0 rfl (by decide) (by decide) k_up_s ?_
      refine q_iload C dL_law_1211 1213 0 rfl rfl ?_
      refine q_i2l (v := ((nI (k_ie bx ln sc c c2)) : Int32).toInt64) C dL_law_1213 1214 rfl rfl ?_
      refine q_lcmp C dL_law_1214 1215 rfl ?_
      refine q_if_eq C dL_law_1215 1218 1220 rfl (by decide) Iff.rfl (fun h1215 => ?_) (fun h1215 => False.elim (h1215 (lg_self _)))
      refine q_goto C dL_law_1220 1304 (by decide) ?_
      refine q_sub (L' := [(4, .int (nI i)), (3, .ref o), (2, .ref y), (1, .ref x), (0, .ref b)]) [2, 3, 4, 5, 6] rfl ?_
      refine q_widen (k := 80 + i + 1) (n := 6951 + 2 * i + 6) (by omega) (by omega) ?_
      exact kk _ ⟨(bx, at0, ln, sc), sv, hsn, (sb, sa, sl, ss), (nb, na, nl, ns), tx, upd fd 0 (nI 0), va_up g 0 (nI (k_ie bx ln sc c c2)).toInt64, _, _, ⟨_, _, _, _, _, _, _, _, _, _, _, _, _, _, _, _, _, _, _, _, _, _, _, _, _, rX, ⟨rO, rA, rB, rL⟩, rH, ⟨gO, gA, gB, gL⟩, rT, rK, rfl⟩, ⟨_, _, _, _, _, _, _, (bx, at0, ln, sc), _, _, _, _, _, _, _, _, _, hwP_1187, hwQ_1187, hwz_1187, rV, rN, rU, rD, rfl⟩, hIv, hIs, (by rw [pk_un (by decide)]; exact q4), (by rw [pk_un (by decide)]; exact q8), (k_Sn_eq hsn6 (by rw [pk_un (by decide)])), hl6, rfl⟩
      
    · refine q_aload_n C dL_law_1155 1156 3 rfl rfl ?_
      refine q_aload_n C dL_law_1156 1157 4 rfl rfl ?_
      refine q_iload C dL_law_1157 1159 0 rfl rfl ?_
      refine q_iconst (v := nI 1) C dL_law_1159 1160 rfl (by decide) ?_
      refine q_iadd (v := nI (i + 1)) C dL_law_1160 1161 rfl (q_nadd (by omega)) ?_
      refine q_sld (v := nI c) C hXb hbl hbA (i + 1) rfl (by omega) (by omega) hxv dL_law_1161 1162 rfl ?_
      refine q_aload_n C dL_law_1162 1163 4 rfl rfl ?_
      refine q_iload C dL_law_1163 1165 0 rfl rfl ?_
      refine q_iconst (v := nI 2) C dL_law_1165 1166 rfl (by decide) ?_
      refine q_iadd (v := nI (i + 2)) C dL_law_1166 1167 rfl (q_nadd (by omega)) ?_
      refine q_sld (v := v2) C hXb hbl hbA (i + 2) rfl (by omega) (by omega) hxv2 dL_law_1167 1168 rfl ?_
      refine q_aload_n C dL_law_1168 1169 1 rfl rfl ?_
      refine q_reord [0, 19, 1, 2, 3, 4, 5, 6, 7, 8, 9, 10, 11, 12, 13, 14, 15, 16, 17, 18] (by decide : ([0, 19, 1, 2, 3, 4, 5, 6, 7, 8, 9, 10, 11, 12, 13, 14, 15, 16, 17, 18] : List Nat).Perm (List.range 20)) (Rs' := [wX, [(o, .inl (cJ, 1, .inr (.inl g)))], wO, wA, wB, wL, wH, vO, vA, vB, vL, wT, wK, wP, wQ, wZ, wV, wN, wU, wD]) rfl rfl ?_
      refine q_resp (Rs' := [[wX].flatten, [(o, .inl (cJ, 1, .inr (.inl g)))], wO, wA, wB, wL, wH, vO, vA, vB, vL, wT, wK, wP, wQ, wZ, wV, wN, wU, wD]) (by simp) ?_
      refine q_callSW (n := 4) (As := [.ref x, .int (nI c), .int v2, .ref o]) (rest := []) (Rr := [wO, wA, wB, wL, wH, vO, vA, vB, vL, wT, wK, wP, wQ, wZ, wV, wN, wU, wD]) C (c_L_ifSet_x2 l hZ hJ hXs x o (nI c) v2 (q_hd (k_isX_recv rX)) (q_Xflat (List.append_nil _).symm (c_X6_ifSet_b l hZ hI hN hXs hlT x aO aY aN hsn aT aK wX rX c v2 (by omega) hv2)) (Nat.le_of_ble_eq_true rfl) (Nat.le_of_ble_eq_true rfl) rfl rfl g) gL_law_L_ifSet rfl rfl rfl (by decide +kernel) B.1 ⟨Nat.le_of_ble_eq_true rfl, Nat.le_of_ble_eq_true rfl⟩ rfl rfl (Nat.le_of_ble_eq_true rfl) dL_law_1169 ⟨(by show (80 + i) + 1 ≤ 601024; omega), (by show (6951 + 2 * i) + 6 ≤ 7293034; omega)⟩ [0, 1] [2, 3, 4, 5, 6, 7, 8, 9, 10, 11, 12, 13, 14, 15, 16, 17, 18, 19] (by decide : ([0, 1] ++ ([2, 3, 4, 5, 6, 7, 8, 9, 10, 11, 12, 13, 14, 15, 16, 17, 18, 19] : List Nat)).Perm (List.range 20)) rfl rfl 1172 rfl (fun v0 R0 t0 ht0 hp0 => ?_)
      obtain ⟨rfl, rfl⟩ := hp0
      refine q_eqs (st' := [.int (nI 2)]) rfl ?_
      refine q_resp (Rs' := [wX, [(o, .inl (cJ, 1, .inr (.inl g)))], wO, wA, wB, wL, wH, vO, vA, vB, vL, wT, wK, wP, wQ, wZ, wV, wN, wU, wD]) (by simp) ?_
      refine q_reord [0, 2, 3, 4, 5, 6, 7, 8, 9, 10, 11, 12, 13, 14, 15, 16, 17, 18, 19, 1] (by decide : ([0, 2, 3, 4, 5, 6, 7, 8, 9, 10, 11, 12, 13, 14, 15, 16, 17, 18, 19, 1] : List Nat).Perm (List.range 20)) (Rs' := [wX, wO, wA, wB, wL, wH, vO, vA, vB, vL, wT, wK, wP, wQ, wZ, wV, wN, wU, wD, [(o, .inl (cJ, 1, .inr (.inl g)))]]) rfl rfl ?_
      refine q_istore C dL_law_1172 1174 rfl [(5, .int (nI 2)), (4, .int (nI i)), (3, .ref o), (2, .ref y), (1, .ref x), (0, .ref b)] (by decide) rfl ?_
      refine q_aload_n C dL_law_1174 1175 3 rfl rfl ?_
      refine q_aload_n C dL_law_1175 1176 5 rfl rfl ?_
      refine q_iload C dL_law_1176 1178 1 rfl rfl ?_
      refine q_iconst (v := nI 1) C dL_law_1178 1179 rfl (by decide) ?_
      refine q_iadd (v := nI (i + 1)) C dL_law_1179 1180 rfl (q_nadd (by omega)) ?_
      refine q_sld (v := nI c) C hXb hbl hbA (i + 1) rfl (by omega) (by omega) hxv dL_law_1180 1181 rfl ?_
      refine q_aload_n C dL_law_1181 1182 5 rfl rfl ?_
      refine q_iload C dL_law_1182 1184 1 rfl rfl ?_
      refine q_iconst (v := nI 2) C dL_law_1184 1185 rfl (by decide) ?_
      refine q_iadd (v := nI (i + 2)) C dL_law_1185 1186 rfl (q_nadd (by omega)) ?_
      refine q_sld (v := v2) C hXb hbl hbA (i + 2) rfl (by omega) (by omega) hxv2 dL_law_1186 1187 rfl ?_
      refine q_callV (k := 12) (ci := 6) (n := 2) (rest := []) (Rr := [wX, wO, wA, wB, wL, wH, vO, vA, vB, vL, wT, wK, wQ, wZ, wV, wN, wU, wD, [(o, .inl (cJ, 1, .inr (.inl g)))]]) C rfl (k_isP_recv rP) rfl (c_X7_ifSet_b l hZ hI y mS mZ mV mN mU mD fd hh wP rP c v2 (by omega) hv2) gL_law_X7_ifSet rfl rfl rfl (by decide +kernel) B.1 ⟨Nat.le_of_ble_eq_true rfl, Nat.le_of_ble_eq_true rfl⟩ rfl rfl (Nat.le_of_ble_eq_true rfl) dL_law_1187 ⟨(by show ((80 + i) + 1) + 0 ≤ 601024; omega), (by show ((6951 + 2 * i) + 6) + 0 ≤ 7293034; omega)⟩ [12] [0, 1, 2, 3, 4, 5, 6, 7, 8, 9, 10, 11, 13, 14, 15, 16, 17, 18, 19] (by decide : ([12] ++ ([0, 1, 2, 3, 4, 5, 6, 7, 8, 9, 10, 11, 13, 14, 15, 16, 17, 18, 19] : List Nat)).Perm (List.range 20)) rfl rfl 1190 rfl (fun v0 R0 t0 ht0 hp0 => ?_)
      obtain ⟨rfl, w_1187, hw_1187, rfl⟩ := hp0
      refine q_eqs (st' := [.int (nI 0)]) rfl ?_
      refine q_reord [1, 2, 3, 4, 5, 6, 7, 8, 9, 10, 11, 12, 0, 13, 14, 15, 16, 17, 18, 19] (by decide : ([1, 2, 3, 4, 5, 6, 7, 8, 9, 10, 11, 12, 0, 13, 14, 15, 16, 17, 18, 19] : List Nat).Perm (List.range 20)) (Rs' := [wX, wO, wA, wB, wL, wH, vO, vA, vB, vL, wT, wK, w_1187, wQ, wZ, wV, wN, wU, wD, [(o, .inl (cJ, 1, .inr (.inl g)))]]) rfl rfl ?_
      refine q_istore C dL_law_1190 1192 rfl [(6, .int (nI 0)), (5, .int (nI 2)), (4, .int (nI i)), (3, .ref o), (2, .ref y), (1, .ref x), (0, .ref b)] (by decide) rfl ?_
      refine q_aload_n C dL_law_1192 1193 4 rfl rfl ?_
      refine q_callV (k := 12) (ci := 6) (n := 0) (rest := []) (Rr := [wX, wO, wA, wB, wL, wH, vO, vA, vB, vL, wT, wK, wQ, wZ, wV, wN, wU, wD, [(o, .inl (cJ, 1, .inr (.inl g)))]]) C rfl (k_isP_recv hw_1187) rfl (c_X7_thrown l hZ hI y mS mZ mV mN mU mD (upd (upd fd 0 (nI 0)) 0 (nI 2)) hh w_1187 hw_1187) gL_law_X7_thrown rfl rfl rfl (by decide +kernel) B.1 ⟨Nat.le_of_ble_eq_true rfl, Nat.le_of_ble_eq_true rfl⟩ rfl rfl (Nat.le_of_ble_eq_true rfl) dL_law_1193 ⟨(by show ((80 + i) + 1) + 0 ≤ 601024; omega), (by show ((6951 + 2 * i) + 6) + 0 ≤ 7293034; omega)⟩ [12] [0, 1, 2, 3, 4, 5, 6, 7, 8, 9, 10, 11, 13, 14, 15, 16, 17, 18, 19] (by decide : ([12] ++ ([0, 1, 2, 3, 4, 5, 6, 7, 8, 9, 10, 11, 13, 14, 15, 16, 17, 18, 19] : List Nat)).Perm (List.range 20)) rfl rfl 1196 rfl (fun v0 R0 t0 ht0 hp0 => ?_)
      obtain ⟨rfl, rfl⟩ := hp0
      refine q_eqs (st' := [.int ((upd (upd fd 0 (nI 0)) 0 (nI 2)) 0)]) rfl ?_
      refine q_reord [1, 2, 3, 4, 5, 6, 7, 8, 9, 10, 11, 12, 0, 13, 14, 15, 16, 17, 18, 19] (by decide : ([1, 2, 3, 4, 5, 6, 7, 8, 9, 10, 11, 12, 0, 13, 14, 15, 16, 17, 18, 19] : List Nat).Perm (List.range 20)) (Rs' := [wX, wO, wA, wB, wL, wH, vO, vA, vB, vL, wT, wK, w_1187, wQ, wZ, wV, wN, wU, wD, [(o, .inl (cJ, 1, .inr (.inl g)))]]) rfl rfl ?_
      refine q_eqs (st' := [.int (nI 2)]) (by rw [pk_us]) ?_
      refine q_iload C dL_law_1196 1198 1 rfl rfl ?_
      refine q_icmp_eq C dL_law_1198 1201 1203 rfl (by decide) (nI_eq (by omega) (by omega)) (fun h1198 => ?_) (fun h1198 => False.elim (by first | omega | simp_all))
      refine q_iload C dL_law_1203 1205 1 rfl rfl ?_
      refine q_if_ne C dL_law_1205 1208 1220 rfl (by decide) (q_eq0 (by omega)) (fun h1205 => ?_) (fun h1205 => False.elim (by first | omega | simp_all))
      refine q_goto C dL_law_1220 1304 (by decide) ?_
      refine q_sub (L' := [(4, .int (nI i)), (3, .ref o), (2, .ref y), (1, .ref x), (0, .ref b)]) [2, 3, 4, 5, 6] rfl ?_
      refine q_widen (k := 80 + i + 1) (n := 6951 + 2 * i + 6) (by omega) (by omega) ?_
      exact kk _ ⟨(bx, at0, ln, sc), sv, hsn, (sb, sa, sl, ss), (nb, na, nl, ns), tx, upd (upd fd 0 (nI 0)) 0 (nI 2), g, _, _, ⟨_, _, _, _, _, _, _, _, _, _, _, _, _, _, _, _, _, _, _, _, _, _, _, _, _, rX, ⟨rO, rA, rB, rL⟩, rH, ⟨gO, gA, gB, gL⟩, rT, rK, rfl⟩, ⟨_, _, _, _, _, _, _, (zb, za, zl, zs), _, _, _, _, _, _, _, _, _, hw_1187, rQ, rZ, rV, rN, rU, rD, rfl⟩, hIv, hIs, (by rw [pk_un (by decide), pk_un (by decide)]; exact q4), (by rw [pk_un (by decide), pk_un (by decide)]; exact q8), (k_Sn_eq hsn6 (by rw [pk_un (by decide), pk_un (by decide)])), hl6, rfl⟩
      
  · refine q_aload_n C dL_law_1155 1156 3 rfl rfl ?_
    refine q_aload_n C dL_law_1156 1157 4 rfl rfl ?_
    refine q_iload C dL_law_1157 1159 0 rfl rfl ?_
    refine q_iconst (v := nI 1) C dL_law_1159 1160 rfl (by decide) ?_
    refine q_iadd (v := nI (i + 1)) C dL_law_1160 1161 rfl (q_nadd (by omega)) ?_
    refine q_sld (v := v) C hXb hbl hbA (i + 1) rfl (by omega) (by omega) hxv dL_law_1161 1162 rfl ?_
    refine q_aload_n C dL_law_1162 1163 4 rfl rfl ?_
    refine q_iload C dL_law_1163 1165 0 rfl rfl ?_
    refine q_iconst (v := nI 2) C dL_law_1165 1166 rfl (by decide) ?_
    refine q_iadd (v := nI (i + 2)) C dL_law_1166 1167 rfl (q_nadd (by omega)) ?_
    refine q_sld (v := v2) C hXb hbl hbA (i + 2) rfl (by omega) (by omega) hxv2 dL_law_1167 1168 rfl ?_
    refine q_aload_n C dL_law_1168 1169 1 rfl rfl ?_
    refine q_reord [0, 19, 1, 2, 3, 4, 5, 6, 7, 8, 9, 10, 11, 12, 13, 14, 15, 16, 17, 18] (by decide : ([0, 19, 1, 2, 3, 4, 5, 6, 7, 8, 9, 10, 11, 12, 13, 14, 15, 16, 17, 18] : List Nat).Perm (List.range 20)) (Rs' := [wX, [(o, .inl (cJ, 1, .inr (.inl g)))], wO, wA, wB, wL, wH, vO, vA, vB, vL, wT, wK, wP, wQ, wZ, wV, wN, wU, wD]) rfl rfl ?_
    refine q_resp (Rs' := [[wX].flatten, [(o, .inl (cJ, 1, .inr (.inl g)))], wO, wA, wB, wL, wH, vO, vA, vB, vL, wT, wK, wP, wQ, wZ, wV, wN, wU, wD]) (by simp) ?_
    refine q_callSW (n := 4) (As := [.ref x, .int v, .int v2, .ref o]) (rest := []) (Rr := [wO, wA, wB, wL, wH, vO, vA, vB, vL, wT, wK, wP, wQ, wZ, wV, wN, wU, wD]) C (c_L_ifSet_x1 l hZ hJ hXs x o v v2 (q_hd (k_isX_recv rX)) (q_Xflat (List.append_nil _).symm (c_X6_ifSet_a l hZ hI hN hXs hlT x aO aY aN hsn aT aK wX rX v v2 hv)) (Nat.le_of_ble_eq_true rfl) (Nat.le_of_ble_eq_true rfl) rfl rfl g) gL_law_L_ifSet rfl rfl rfl (by decide +kernel) B.1 ⟨Nat.le_of_ble_eq_true rfl, Nat.le_of_ble_eq_true rfl⟩ rfl rfl (Nat.le_of_ble_eq_true rfl) dL_law_1169 ⟨(by show (80 + i) + 1 ≤ 601024; omega), (by show (6951 + 2 * i) + 6 ≤ 7293034; omega)⟩ [0, 1] [2, 3, 4, 5, 6, 7, 8, 9, 10, 11, 12, 13, 14, 15, 16, 17, 18, 19] (by decide : ([0, 1] ++ ([2, 3, 4, 5, 6, 7, 8, 9, 10, 11, 12, 13, 14, 15, 16, 17, 18, 19] : List Nat)).Perm (List.range 20)) rfl rfl 1172 rfl (fun v0 R0 t0 ht0 hp0 => ?_)
    obtain ⟨rfl, rfl⟩ := hp0
    refine q_eqs (st' := [.int (nI 1)]) rfl ?_
    refine q_resp (Rs' := [wX, [(o, .inl (cJ, 1, .inr (.inl g)))], wO, wA, wB, wL, wH, vO, vA, vB, vL, wT, wK, wP, wQ, wZ, wV, wN, wU, wD]) (by simp) ?_
    refine q_reord [0, 2, 3, 4, 5, 6, 7, 8, 9, 10, 11, 12, 13, 14, 15, 16, 17, 18, 19, 1] (by decide : ([0, 2, 3, 4, 5, 6, 7, 8, 9, 10, 11, 12, 13, 14, 15, 16, 17, 18, 19, 1] : List Nat).Perm (List.range 20)) (Rs' := [wX, wO, wA, wB, wL, wH, vO, vA, vB, vL, wT, wK, wP, wQ, wZ, wV, wN, wU, wD, [(o, .inl (cJ, 1, .inr (.inl g)))]]) rfl rfl ?_
    refine q_istore C dL_law_1172 1174 rfl [(5, .int (nI 1)), (4, .int (nI i)), (3, .ref o), (2, .ref y), (1, .ref x), (0, .ref b)] (by decide) rfl ?_
    refine q_aload_n C dL_law_1174 1175 3 rfl rfl ?_
    refine q_aload_n C dL_law_1175 1176 5 rfl rfl ?_
    refine q_iload C dL_law_1176 1178 1 rfl rfl ?_
    refine q_iconst (v := nI 1) C dL_law_1178 1179 rfl (by decide) ?_
    refine q_iadd (v := nI (i + 1)) C dL_law_1179 1180 rfl (q_nadd (by omega)) ?_
    refine q_sld (v := v) C hXb hbl hbA (i + 1) rfl (by omega) (by omega) hxv dL_law_1180 1181 rfl ?_
    refine q_aload_n C dL_law_1181 1182 5 rfl rfl ?_
    refine q_iload C dL_law_1182 1184 1 rfl rfl ?_
    refine q_iconst (v := nI 2) C dL_law_1184 1185 rfl (by decide) ?_
    refine q_iadd (v := nI (i + 2)) C dL_law_1185 1186 rfl (q_nadd (by omega)) ?_
    refine q_sld (v := v2) C hXb hbl hbA (i + 2) rfl (by omega) (by omega) hxv2 dL_law_1186 1187 rfl ?_
    refine q_callV (k := 12) (ci := 6) (n := 2) (rest := []) (Rr := [wX, wO, wA, wB, wL, wH, vO, vA, vB, vL, wT, wK, wQ, wZ, wV, wN, wU, wD, [(o, .inl (cJ, 1, .inr (.inl g)))]]) C rfl (k_isP_recv rP) rfl (c_X7_ifSet_a l hZ hI y mS mZ mV mN mU mD fd hh wP rP v v2 (k_nb12 hv)) gL_law_X7_ifSet rfl rfl rfl (by decide +kernel) B.1 ⟨Nat.le_of_ble_eq_true rfl, Nat.le_of_ble_eq_true rfl⟩ rfl rfl (Nat.le_of_ble_eq_true rfl) dL_law_1187 ⟨(by show ((80 + i) + 1) + 0 ≤ 601024; omega), (by show ((6951 + 2 * i) + 6) + 0 ≤ 7293034; omega)⟩ [12] [0, 1, 2, 3, 4, 5, 6, 7, 8, 9, 10, 11, 13, 14, 15, 16, 17, 18, 19] (by decide : ([12] ++ ([0, 1, 2, 3, 4, 5, 6, 7, 8, 9, 10, 11, 13, 14, 15, 16, 17, 18, 19] : List Nat)).Perm (List.range 20)) rfl rfl 1190 rfl (fun v0 R0 t0 ht0 hp0 => ?_)
    obtain ⟨rfl, w_1187, hw_1187, rfl⟩ := hp0
    refine q_eqs (st' := [.int (nI 0)]) rfl ?_
    refine q_reord [1, 2, 3, 4, 5, 6, 7, 8, 9, 10, 11, 12, 0, 13, 14, 15, 16, 17, 18, 19] (by decide : ([1, 2, 3, 4, 5, 6, 7, 8, 9, 10, 11, 12, 0, 13, 14, 15, 16, 17, 18, 19] : List Nat).Perm (List.range 20)) (Rs' := [wX, wO, wA, wB, wL, wH, vO, vA, vB, vL, wT, wK, w_1187, wQ, wZ, wV, wN, wU, wD, [(o, .inl (cJ, 1, .inr (.inl g)))]]) rfl rfl ?_
    refine q_istore C dL_law_1190 1192 rfl [(6, .int (nI 0)), (5, .int (nI 1)), (4, .int (nI i)), (3, .ref o), (2, .ref y), (1, .ref x), (0, .ref b)] (by decide) rfl ?_
    refine q_aload_n C dL_law_1192 1193 4 rfl rfl ?_
    refine q_callV (k := 12) (ci := 6) (n := 0) (rest := []) (Rr := [wX, wO, wA, wB, wL, wH, vO, vA, vB, vL, wT, wK, wQ, wZ, wV, wN, wU, wD, [(o, .inl (cJ, 1, .inr (.inl g)))]]) C rfl (k_isP_recv hw_1187) rfl (c_X7_thrown l hZ hI y mS mZ mV mN mU mD (upd (upd fd 0 (nI 0)) 0 (nI 1)) hh w_1187 hw_1187) gL_law_X7_thrown rfl rfl rfl (by decide +kernel) B.1 ⟨Nat.le_of_ble_eq_true rfl, Nat.le_of_ble_eq_true rfl⟩ rfl rfl (Nat.le_of_ble_eq_true rfl) dL_law_1193 ⟨(by show ((80 + i) + 1) + 0 ≤ 601024; omega), (by show ((6951 + 2 * i) + 6) + 0 ≤ 7293034; omega)⟩ [12] [0, 1, 2, 3, 4, 5, 6, 7, 8, 9, 10, 11, 13, 14, 15, 16, 17, 18, 19] (by decide : ([12] ++ ([0, 1, 2, 3, 4, 5, 6, 7, 8, 9, 10, 11, 13, 14, 15, 16, 17, 18, 19] : List Nat)).Perm (List.range 20)) rfl rfl 1196 rfl (fun v0 R0 t0 ht0 hp0 => ?_)
    obtain ⟨rfl, rfl⟩ := hp0
    refine q_eqs (st' := [.int ((upd (upd fd 0 (nI 0)) 0 (nI 1)) 0)]) rfl ?_
    refine q_reord [1, 2, 3, 4, 5, 6, 7, 8, 9, 10, 11, 12, 0, 13, 14, 15, 16, 17, 18, 19] (by decide : ([1, 2, 3, 4, 5, 6, 7, 8, 9, 10, 11, 12, 0, 13, 14, 15, 16, 17, 18, 19] : List Nat).Perm (List.range 20)) (Rs' := [wX, wO, wA, wB, wL, wH, vO, vA, vB, vL, wT, wK, w_1187, wQ, wZ, wV, wN, wU, wD, [(o, .inl (cJ, 1, .inr (.inl g)))]]) rfl rfl ?_
    refine q_eqs (st' := [.int (nI 1)]) (by rw [pk_us]) ?_
    refine q_iload C dL_law_1196 1198 1 rfl rfl ?_
    refine q_icmp_eq C dL_law_1198 1201 1203 rfl (by decide) (nI_eq (by omega) (by omega)) (fun h1198 => ?_) (fun h1198 => False.elim (by first | omega | simp_all))
    refine q_iload C dL_law_1203 1205 1 rfl rfl ?_
    refine q_if_ne C dL_law_1205 1208 1220 rfl (by decide) (q_eq0 (by omega)) (fun h1205 => ?_) (fun h1205 => False.elim (by first | omega | simp_all))
    refine q_goto C dL_law_1220 1304 (by decide) ?_
    refine q_sub (L' := [(4, .int (nI i)), (3, .ref o), (2, .ref y), (1, .ref x), (0, .ref b)]) [2, 3, 4, 5, 6] rfl ?_
    refine q_widen (k := 80 + i + 1) (n := 6951 + 2 * i + 6) (by omega) (by omega) ?_
    exact kk _ ⟨(bx, at0, ln, sc), sv, hsn, (sb, sa, sl, ss), (nb, na, nl, ns), tx, upd (upd fd 0 (nI 0)) 0 (nI 1), g, _, _, ⟨_, _, _, _, _, _, _, _, _, _, _, _, _, _, _, _, _, _, _, _, _, _, _, _, _, rX, ⟨rO, rA, rB, rL⟩, rH, ⟨gO, gA, gB, gL⟩, rT, rK, rfl⟩, ⟨_, _, _, _, _, _, _, (zb, za, zl, zs), _, _, _, _, _, _, _, _, _, hw_1187, rQ, rZ, rV, rN, rU, rD, rfl⟩, hIv, hIs, (by rw [pk_un (by decide), pk_un (by decide)]; exact q4), (by rw [pk_un (by decide), pk_un (by decide)]; exact q8), (k_Sn_eq hsn6 (by rw [pk_un (by decide), pk_un (by decide)])), hl6, rfl⟩
    

set_option maxHeartbeats 1000000 in
set_option maxRecDepth 100000 in
theorem law_c21 {p9 : Program} {l : Launch} {e9 : Env} {R : Room} {s9 : State} {m9 : MethodId} {args : Array Value} {below : List Frame} {meth : Method} {c9 : Code} {Q : State → Prop} {D : va_G} {tys : List (ClassId × FieldType)} {A : Nat → Prop} {Z : (Nat → Prop) → State → Heap → Prop} {b LL : Nat} {xs : Nat → Int32} {x y o i : Nat} {Rs : List va_W} (C : q_C p9 s9 m9 args c9 cL_law 9 wsL_law RL D tys Z A) (hZ : q_St Z) {cI cG cJ : ClassId} (hI : tys[0]? = some (cI, .int)) (hG : tys[1]? = some (cG, .object "SortCases$State")) (hJ : tys[2]? = some (cJ, .long)) (hN : q_Ns Z) {ad aw av : Nat → Nat} {tK : Nat} (hKs : q_Ks Z ad aw av tK) {tL tH : Nat} (hVs : q_Vs Z tL tH) (hXs : q_Xs Z) (hlT : l.stackTraces = false) (hXb : va_X b LL xs s9 s9.heap) (hbl : b < s9.heap.size) (hbA : ¬ A b) (hR : R = ({ frames := 12, cells := 601024, slots := 7293034, locals := 454 } : Room)) (hi : i + 3 ≤ LL) (hL : LL ≤ 1536) (hRs : law_I cG cI cJ x y o Rs) (kk : ∀ Rs', law_I cG cI cJ x y o Rs' → q_V p9 l e9 R s9 m9 args below meth c9 D A 9 Q (80 + i + 1) (6951 + 2 * i + 6) 1304 [(4, .int (nI i)), (3, .ref o), (2, .ref y), (1, .ref x), (0, .ref b)] [] Rs') : q_V p9 l e9 R s9 m9 args below meth c9 D A 9 Q (80 + i) (6951 + 2 * i) 1223 [(4, .int (nI i)), (3, .ref o), (2, .ref y), (1, .ref x), (0, .ref b)] [] Rs := by
  have hcI := hI
  have hcG := hG
  have B : R = ({ frames := 12, cells := 601024, slots := 7293034, locals := 454 } : Room) ∧ True := ⟨hR, trivial⟩
  have hts := C.2.2.2.2.1
  obtain ⟨⟨bx, at0, ln, sc⟩, sv, hsn, ⟨sb, sa, sl, ss⟩, ⟨nb, na, nl, ns⟩, tx, fd, g, R1, R2, ⟨aO, aY, aN, aT, aK, aB, aL, aS, naB, naL, naS, kb, ka, wX, wO, wA, wB, wL, wH, vO, vA, vB, vL, wT, wK, rX, ⟨rO, rA, rB, rL⟩, rH, ⟨gO, gA, gB, gL⟩, rT, rK, rfl⟩, ⟨mS, mZ, mV, mN, mU, mD, hh, ⟨zb, za, zl, zs⟩, dx, ps, wP, wQ, wZ, wV, wN, wU, wD, rP, rQ, rZ, rV, rN, rU, rD, rfl⟩, hIv, hIs, q4, q8, hsn6, hl6, rfl⟩ := hRs
  have rO : k_isO cI aO aB aL aS sc wO := rO
  have rA : k_isA cI aS sc wA := rA
  have rB : k_isB cI aB bx at0 wB := rB
  have rL : k_isL cI aL ln wL := rL
  have gO : k_isO cI aN naB naL naS ss vO := gO
  have gA : k_isA cI naS ss vA := gA
  have gB : k_isB cI naB sb sa vB := gB
  have gL : k_isL cI naL sl vL := gL
  have rQ : k_isQ cI mS bx at0 ln sc wQ := rQ
  have rZ : k_isQ cI mZ zb za zl zs wZ := rZ
  have rN : k_isQ cI mN nb na nl ns wN := rN
  have hll : ln.length ≤ 40 := rL.1.1
  have htl : tx.length ≤ 60 := rT.1.1
  obtain ⟨v, hxv⟩ : ∃ v, xs (i + 1) = v := ⟨_, rfl⟩
  obtain ⟨v2, hxv2⟩ : ∃ v2, xs (i + 2) = v2 := ⟨_, rfl⟩
  refine q_eqR (Rs' := [wX, wO, wA, wB, wL, wH, vO, vA, vB, vL, wT, wK, wP, wQ, wZ, wV, wN, wU, wD, [(o, .inl (cJ, 1, .inr (.inl g)))]]) rfl ?_
  refine q_aload_n C dL_law_1223 1224 3 rfl rfl ?_
  refine q_callV (k := 0) (ci := 5) (n := 0) (rest := []) (Rr := [wL, wH, vO, vA, vB, vL, wT, wP, wQ, wZ, wV, wN, wU, wD, [(o, .inl (cJ, 1, .inr (.inl g)))]]) C rfl (k_isX_recv rX) rfl (c_X6_sortedIn l hZ hI hN x aO aY aN hsn aT aK wX rX aB aL aS sc wO rO wA rA bx at0 wB rB kb ka wK rK (k_Cv_ty (S := (bx, at0, ln, sc)) rB.2.1 hIv.2)) gL_law_X6_sortedIn rfl rfl rfl (by decide +kernel) B.1 ⟨Nat.le_of_ble_eq_true rfl, Nat.le_of_ble_eq_true rfl⟩ rfl rfl (Nat.le_of_ble_eq_true rfl) dL_law_1224 ⟨(by show (80 + i) + 0 ≤ 601024; omega), (by show (6951 + 2 * i) + 0 ≤ 7293034; omega)⟩ [0, 1, 2, 3, 11] [4, 5, 6, 7, 8, 9, 10, 12, 13, 14, 15, 16, 17, 18, 19] (by decide : ([0, 1, 2, 3, 11] ++ ([4, 5, 6, 7, 8, 9, 10, 12, 13, 14, 15, 16, 17, 18, 19] : List Nat)).Perm (List.range 20)) rfl rfl 1227 rfl (fun v0 R0 t0 ht0 hp0 => ?_)
  obtain ⟨rfl, wk_1224, hwk_1224, rfl⟩ := hp0
  refine q_eqs (st' := [.int (nI (k_lm bx at0 (-1) (k_T bx at0)))]) rfl ?_
  refine q_reord [0, 1, 2, 3, 5, 6, 7, 8, 9, 10, 11, 4, 12, 13, 14, 15, 16, 17, 18, 19] (by decide : ([0, 1, 2, 3, 5, 6, 7, 8, 9, 10, 11, 4, 12, 13, 14, 15, 16, 17, 18, 19] : List Nat).Perm (List.range 20)) (Rs' := [wX, wO, wA, wB, wL, wH, vO, vA, vB, vL, wT, wk_1224, wP, wQ, wZ, wV, wN, wU, wD, [(o, .inl (cJ, 1, .inr (.inl g)))]]) rfl rfl ?_
  refine q_aload_n C dL_law_1227 1228 2 rfl rfl ?_
  refine q_callV (k := 12) (ci := 6) (n := 0) (rest := [.int (nI (k_lm bx at0 (-1) (k_T bx at0)))]) (Rr := [wX, wO, wA, wB, wL, wH, vO, vA, vB, vL, wT, wk_1224, wV, wN, wU, wD, [(o, .inl (cJ, 1, .inr (.inl g)))]]) C rfl (k_isP_recv rP) rfl (c_X7_sortedIn l hZ hI y mS mZ mV mN mU mD fd hh wP rP bx at0 ln sc wQ rQ zb za zl zs wZ rZ (k_Cv_ty (S := (bx, at0, ln, sc)) rB.2.1 hIv.2)) gL_law_X7_sortedIn rfl rfl rfl (by decide +kernel) B.1 ⟨Nat.le_of_ble_eq_true rfl, Nat.le_of_ble_eq_true rfl⟩ rfl rfl (Nat.le_of_ble_eq_true rfl) dL_law_1228 ⟨(by show (80 + i) + 0 ≤ 601024; omega), (by show (6951 + 2 * i) + 0 ≤ 7293034; omega)⟩ [12, 13, 14] [0, 1, 2, 3, 4, 5, 6, 7, 8, 9, 10, 11, 15, 16, 17, 18, 19] (by decide : ([12, 13, 14] ++ ([0, 1, 2, 3, 4, 5, 6, 7, 8, 9, 10, 11, 15, 16, 17, 18, 19] : List Nat)).Perm (List.range 20)) rfl rfl 1231 rfl (fun v0 R0 t0 ht0 hp0 => ?_)
  obtain ⟨rfl, wP_1228, hwP_1228, wQ_1228, hwQ_1228, wz_1228, hwz_1228, rfl⟩ := hp0
  refine q_eqs (st' := [.int (nI (k_lm bx at0 (-1) (k_T bx at0))), .int (nI (k_lm bx at0 (-1) (k_T bx at0)))]) rfl ?_
  refine q_reord [3, 4, 5, 6, 7, 8, 9, 10, 11, 12, 13, 14, 0, 1, 2, 15, 16, 17, 18, 19] (by decide : ([3, 4, 5, 6, 7, 8, 9, 10, 11, 12, 13, 14, 0, 1, 2, 15, 16, 17, 18, 19] : List Nat).Perm (List.range 20)) (Rs' := [wX, wO, wA, wB, wL, wH, vO, vA, vB, vL, wT, wk_1224, wP_1228, wQ_1228, wz_1228, wV, wN, wU, wD, [(o, .inl (cJ, 1, .inr (.inl g)))]]) rfl rfl ?_
  refine q_icmp_eq (P := nI (k_lm bx at0 (-1) (k_T bx at0)) = nI (k_lm bx at0 (-1) (k_T bx at0))) C dL_law_1231 1234 1304 rfl (by decide) Iff.rfl (fun h1231 => ?_) (fun h1231 => False.elim (h1231 rfl))
  refine q_sub (L' := [(4, .int (nI i)), (3, .ref o), (2, .ref y), (1, .ref x), (0, .ref b)]) [0, 1, 2, 3, 4] rfl ?_
  refine q_widen (k := 80 + i + 1) (n := 6951 + 2 * i + 6) (by omega) (by omega) ?_
  exact kk _ ⟨(bx, at0, ln, sc), sv, hsn, (sb, sa, sl, ss), (nb, na, nl, ns), tx, upd (upd (upd fd 0 (nI 0)) 13 (nI (k_lm bx at0 (-1) (k_T bx at0)))) 14 (nI (k_wr (k_bs bx at0 (-1) (k_T bx at0)).1)), g, _, _, ⟨_, _, _, _, _, _, _, _, _, _, _, _, _, _, _, _, _, _, _, _, _, _, _, _, _, rX, ⟨rO, rA, rB, rL⟩, rH, ⟨gO, gA, gB, gL⟩, rT, hwk_1224, rfl⟩, ⟨_, _, _, _, _, _, _, (bx, at0, ln, sc), _, _, _, _, _, _, _, _, _, hwP_1228, hwQ_1228, hwz_1228, rV, rN, rU, rD, rfl⟩, hIv, hIs, (by rw [pk_un (by decide), pk_un (by decide), pk_un (by decide)]; exact q4), (by rw [pk_un (by decide), pk_un (by decide), pk_un (by decide)]; exact q8), (k_Sn_eq hsn6 (by rw [pk_un (by decide), pk_un (by decide), pk_un (by decide)])), hl6, rfl⟩
  

set_option maxHeartbeats 1000000 in
set_option maxRecDepth 100000 in
theorem law_c22 {p9 : Program} {l : Launch} {e9 : Env} {R : Room} {s9 : State} {m9 : MethodId} {args : Array Value} {below : List Frame} {meth : Method} {c9 : Code} {Q : State → Prop} {D : va_G} {tys : List (ClassId × FieldType)} {A : Nat → Prop} {Z : (Nat → Prop) → State → Heap → Prop} {b LL : Nat} {xs : Nat → Int32} {x y o i : Nat} {Rs : List va_W} (C : q_C p9 s9 m9 args c9 cL_law 9 wsL_law RL D tys Z A) (hZ : q_St Z) {cI cG cJ : ClassId} (hI : tys[0]? = some (cI, .int)) (hG : tys[1]? = some (cG, .object "SortCases$State")) (hJ : tys[2]? = some (cJ, .long)) (hN : q_Ns Z) {ad aw av : Nat → Nat} {tK : Nat} (hKs : q_Ks Z ad aw av tK) {tL tH : Nat} (hVs : q_Vs Z tL tH) (hXs : q_Xs Z) (hlT : l.stackTraces = false) (hXb : va_X b LL xs s9 s9.heap) (hbl : b < s9.heap.size) (hbA : ¬ A b) (hR : R = ({ frames := 12, cells := 601024, slots := 7293034, locals := 454 } : Room)) (hi : i + 3 ≤ LL) (hL : LL ≤ 1536) (hRs : law_I cG cI cJ x y o Rs) (kk : ∀ Rs', law_I cG cI cJ x y o Rs' → q_V p9 l e9 R s9 m9 args below meth c9 D A 9 Q (80 + i + 1) (6951 + 2 * i + 6) 1304 [(4, .int (nI i)), (3, .ref o), (2, .ref y), (1, .ref x), (0, .ref b)] [] Rs') : q_V p9 l e9 R s9 m9 args below meth c9 D A 9 Q (80 + i) (6951 + 2 * i) 1236 [(4, .int (nI i)), (3, .ref o), (2, .ref y), (1, .ref x), (0, .ref b)] [] Rs := by
  have hcI := hI
  have hcG := hG
  have B : R = ({ frames := 12, cells := 601024, slots := 7293034, locals := 454 } : Room) ∧ True := ⟨hR, trivial⟩
  have hts := C.2.2.2.2.1
  obtain ⟨⟨bx, at0, ln, sc⟩, sv, hsn, ⟨sb, sa, sl, ss⟩, ⟨nb, na, nl, ns⟩, tx, fd, g, R1, R2, ⟨aO, aY, aN, aT, aK, aB, aL, aS, naB, naL, naS, kb, ka, wX, wO, wA, wB, wL, wH, vO, vA, vB, vL, wT, wK, rX, ⟨rO, rA, rB, rL⟩, rH, ⟨gO, gA, gB, gL⟩, rT, rK, rfl⟩, ⟨mS, mZ, mV, mN, mU, mD, hh, ⟨zb, za, zl, zs⟩, dx, ps, wP, wQ, wZ, wV, wN, wU, wD, rP, rQ, rZ, rV, rN, rU, rD, rfl⟩, hIv, hIs, q4, q8, hsn6, hl6, rfl⟩ := hRs
  have rO : k_isO cI aO aB aL aS sc wO := rO
  have rA : k_isA cI aS sc wA := rA
  have rB : k_isB cI aB bx at0 wB := rB
  have rL : k_isL cI aL ln wL := rL
  have gO : k_isO cI aN naB naL naS ss vO := gO
  have gA : k_isA cI naS ss vA := gA
  have gB : k_isB cI naB sb sa vB := gB
  have gL : k_isL cI naL sl vL := gL
  have rQ : k_isQ cI mS bx at0 ln sc wQ := rQ
  have rZ : k_isQ cI mZ zb za zl zs wZ := rZ
  have rN : k_isQ cI mN nb na nl ns wN := rN
  have hll : ln.length ≤ 40 := rL.1.1
  have htl : tx.length ≤ 60 := rT.1.1
  obtain ⟨v, hxv⟩ : ∃ v, xs (i + 1) = v := ⟨_, rfl⟩
  obtain ⟨v2, hxv2⟩ : ∃ v2, xs (i + 2) = v2 := ⟨_, rfl⟩
  refine q_eqR (Rs' := [wX, wO, wA, wB, wL, wH, vO, vA, vB, vL, wT, wK, wP, wQ, wZ, wV, wN, wU, wD, [(o, .inl (cJ, 1, .inr (.inl g)))]]) rfl ?_
  refine q_aload_n C dL_law_1236 1237 3 rfl rfl ?_
  refine q_callV (k := 0) (ci := 5) (n := 0) (rest := []) (Rr := [wL, wH, vO, vA, vB, vL, wT, wP, wQ, wZ, wV, wN, wU, wD, [(o, .inl (cJ, 1, .inr (.inl g)))]]) C rfl (k_isX_recv rX) rfl (c_X6_wrongThen l hZ hI hN x aO aY aN hsn aT aK wX rX aB aL aS sc wO rO wA rA bx at0 wB rB kb ka wK rK (k_Cv_ty (S := (bx, at0, ln, sc)) rB.2.1 hIv.2)) gL_law_X6_wrongThen rfl rfl rfl (by decide +kernel) B.1 ⟨Nat.le_of_ble_eq_true rfl, Nat.le_of_ble_eq_true rfl⟩ rfl rfl (Nat.le_of_ble_eq_true rfl) dL_law_1237 ⟨(by show (80 + i) + 0 ≤ 601024; omega), (by show (6951 + 2 * i) + 0 ≤ 7293034; omega)⟩ [0, 1, 2, 3, 11] [4, 5, 6, 7, 8, 9, 10, 12, 13, 14, 15, 16, 17, 18, 19] (by decide : ([0, 1, 2, 3, 11] ++ ([4, 5, 6, 7, 8, 9, 10, 12, 13, 14, 15, 16, 17, 18, 19] : List Nat)).Perm (List.range 20)) rfl rfl 1240 rfl (fun v0 R0 t0 ht0 hp0 => ?_)
  obtain ⟨rfl, wk_1237, hwk_1237, rfl⟩ := hp0
  refine q_eqs (st' := [.int (nI (k_wr (k_bs bx at0 (-1) (k_T bx at0)).1))]) rfl ?_
  refine q_reord [0, 1, 2, 3, 5, 6, 7, 8, 9, 10, 11, 4, 12, 13, 14, 15, 16, 17, 18, 19] (by decide : ([0, 1, 2, 3, 5, 6, 7, 8, 9, 10, 11, 4, 12, 13, 14, 15, 16, 17, 18, 19] : List Nat).Perm (List.range 20)) (Rs' := [wX, wO, wA, wB, wL, wH, vO, vA, vB, vL, wT, wk_1237, wP, wQ, wZ, wV, wN, wU, wD, [(o, .inl (cJ, 1, .inr (.inl g)))]]) rfl rfl ?_
  refine q_aload_n C dL_law_1240 1241 2 rfl rfl ?_
  refine q_callV (k := 12) (ci := 6) (n := 0) (rest := [.int (nI (k_wr (k_bs bx at0 (-1) (k_T bx at0)).1))]) (Rr := [wX, wO, wA, wB, wL, wH, vO, vA, vB, vL, wT, wk_1237, wV, wN, wU, wD, [(o, .inl (cJ, 1, .inr (.inl g)))]]) C rfl (k_isP_recv rP) rfl (c_X7_wrongThen l hZ hI y mS mZ mV mN mU mD fd hh wP rP bx at0 ln sc wQ rQ zb za zl zs wZ rZ (k_Cv_ty (S := (bx, at0, ln, sc)) rB.2.1 hIv.2)) gL_law_X7_wrongThen rfl rfl rfl (by decide +kernel) B.1 ⟨Nat.le_of_ble_eq_true rfl, Nat.le_of_ble_eq_true rfl⟩ rfl rfl (Nat.le_of_ble_eq_true rfl) dL_law_1241 ⟨(by show (80 + i) + 0 ≤ 601024; omega), (by show (6951 + 2 * i) + 0 ≤ 7293034; omega)⟩ [12, 13, 14] [0, 1, 2, 3, 4, 5, 6, 7, 8, 9, 10, 11, 15, 16, 17, 18, 19] (by decide : ([12, 13, 14] ++ ([0, 1, 2, 3, 4, 5, 6, 7, 8, 9, 10, 11, 15, 16, 17, 18, 19] : List Nat)).Perm (List.range 20)) rfl rfl 1244 rfl (fun v0 R0 t0 ht0 hp0 => ?_)
  obtain ⟨rfl, wP_1241, hwP_1241, wQ_1241, hwQ_1241, wz_1241, hwz_1241, rfl⟩ := hp0
  refine q_eqs (st' := [.int (nI (k_wr (k_bs bx at0 (-1) (k_T bx at0)).1)), .int (nI (k_wr (k_bs bx at0 (-1) (k_T bx at0)).1))]) rfl ?_
  refine q_reord [3, 4, 5, 6, 7, 8, 9, 10, 11, 12, 13, 14, 0, 1, 2, 15, 16, 17, 18, 19] (by decide : ([3, 4, 5, 6, 7, 8, 9, 10, 11, 12, 13, 14, 0, 1, 2, 15, 16, 17, 18, 19] : List Nat).Perm (List.range 20)) (Rs' := [wX, wO, wA, wB, wL, wH, vO, vA, vB, vL, wT, wk_1237, wP_1241, wQ_1241, wz_1241, wV, wN, wU, wD, [(o, .inl (cJ, 1, .inr (.inl g)))]]) rfl rfl ?_
  refine q_icmp_eq (P := nI (k_wr (k_bs bx at0 (-1) (k_T bx at0)).1) = nI (k_wr (k_bs bx at0 (-1) (k_T bx at0)).1)) C dL_law_1244 1247 1304 rfl (by decide) Iff.rfl (fun h1244 => ?_) (fun h1244 => False.elim (h1244 rfl))
  refine q_sub (L' := [(4, .int (nI i)), (3, .ref o), (2, .ref y), (1, .ref x), (0, .ref b)]) [0, 1, 2, 3, 4] rfl ?_
  refine q_widen (k := 80 + i + 1) (n := 6951 + 2 * i + 6) (by omega) (by omega) ?_
  exact kk _ ⟨(bx, at0, ln, sc), sv, hsn, (sb, sa, sl, ss), (nb, na, nl, ns), tx, upd (upd (upd fd 0 (nI 0)) 13 (nI (k_lm bx at0 (-1) (k_T bx at0)))) 14 (nI (k_wr (k_bs bx at0 (-1) (k_T bx at0)).1)), g, _, _, ⟨_, _, _, _, _, _, _, _, _, _, _, _, _, _, _, _, _, _, _, _, _, _, _, _, _, rX, ⟨rO, rA, rB, rL⟩, rH, ⟨gO, gA, gB, gL⟩, rT, hwk_1237, rfl⟩, ⟨_, _, _, _, _, _, _, (bx, at0, ln, sc), _, _, _, _, _, _, _, _, _, hwP_1241, hwQ_1241, hwz_1241, rV, rN, rU, rD, rfl⟩, hIv, hIs, (by rw [pk_un (by decide), pk_un (by decide), pk_un (by decide)]; exact q4), (by rw [pk_un (by decide), pk_un (by decide), pk_un (by decide)]; exact q8), (k_Sn_eq hsn6 (by rw [pk_un (by decide), pk_un (by decide), pk_un (by decide)])), hl6, rfl⟩
  

set_option maxHeartbeats 1000000 in
set_option maxRecDepth 100000 in
theorem law_c23 {p9 : Program} {l : Launch} {e9 : Env} {R : Room} {s9 : State} {m9 : MethodId} {args : Array Value} {below : List Frame} {meth : Method} {c9 : Code} {Q : State → Prop} {D : va_G} {tys : List (ClassId × FieldType)} {A : Nat → Prop} {Z : (Nat → Prop) → State → Heap → Prop} {b LL : Nat} {xs : Nat → Int32} {x y o i : Nat} {Rs : List va_W} (C : q_C p9 s9 m9 args c9 cL_law 9 wsL_law RL D tys Z A) (hZ : q_St Z) {cI cG cJ : ClassId} (hI : tys[0]? = some (cI, .int)) (hG : tys[1]? = some (cG, .object "SortCases$State")) (hJ : tys[2]? = some (cJ, .long)) (hN : q_Ns Z) {ad aw av : Nat → Nat} {tK : Nat} (hKs : q_Ks Z ad aw av tK) {tL tH : Nat} (hVs : q_Vs Z tL tH) (hXs : q_Xs Z) (hlT : l.stackTraces = false) (hXb : va_X b LL xs s9 s9.heap) (hbl : b < s9.heap.size) (hbA : ¬ A b) (hR : R = ({ frames := 12, cells := 601024, slots := 7293034, locals := 454 } : Room)) (hi : i + 3 ≤ LL) (hL : LL ≤ 1536) (hRs : law_I cG cI cJ x y o Rs) (kk : ∀ Rs', law_I cG cI cJ x y o Rs' → q_V p9 l e9 R s9 m9 args below meth c9 D A 9 Q (80 + i + 1) (6951 + 2 * i + 6) 1304 [(4, .int (nI i)), (3, .ref o), (2, .ref y), (1, .ref x), (0, .ref b)] [] Rs') : q_V p9 l e9 R s9 m9 args below meth c9 D A 9 Q (80 + i) (6951 + 2 * i) 1249 [(4, .int (nI i)), (3, .ref o), (2, .ref y), (1, .ref x), (0, .ref b)] [] Rs := by
  have hcI := hI
  have hcG := hG
  have B : R = ({ frames := 12, cells := 601024, slots := 7293034, locals := 454 } : Room) ∧ True := ⟨hR, trivial⟩
  have hts := C.2.2.2.2.1
  obtain ⟨⟨bx, at0, ln, sc⟩, sv, hsn, ⟨sb, sa, sl, ss⟩, ⟨nb, na, nl, ns⟩, tx, fd, g, R1, R2, ⟨aO, aY, aN, aT, aK, aB, aL, aS, naB, naL, naS, kb, ka, wX, wO, wA, wB, wL, wH, vO, vA, vB, vL, wT, wK, rX, ⟨rO, rA, rB, rL⟩, rH, ⟨gO, gA, gB, gL⟩, rT, rK, rfl⟩, ⟨mS, mZ, mV, mN, mU, mD, hh, ⟨zb, za, zl, zs⟩, dx, ps, wP, wQ, wZ, wV, wN, wU, wD, rP, rQ, rZ, rV, rN, rU, rD, rfl⟩, hIv, hIs, q4, q8, hsn6, hl6, rfl⟩ := hRs
  have rO : k_isO cI aO aB aL aS sc wO := rO
  have rA : k_isA cI aS sc wA := rA
  have rB : k_isB cI aB bx at0 wB := rB
  have rL : k_isL cI aL ln wL := rL
  have gO : k_isO cI aN naB naL naS ss vO := gO
  have gA : k_isA cI naS ss vA := gA
  have gB : k_isB cI naB sb sa vB := gB
  have gL : k_isL cI naL sl vL := gL
  have rQ : k_isQ cI mS bx at0 ln sc wQ := rQ
  have rZ : k_isQ cI mZ zb za zl zs wZ := rZ
  have rN : k_isQ cI mN nb na nl ns wN := rN
  have hll : ln.length ≤ 40 := rL.1.1
  have htl : tx.length ≤ 60 := rT.1.1
  obtain ⟨v, hxv⟩ : ∃ v, xs (i + 1) = v := ⟨_, rfl⟩
  obtain ⟨v2, hxv2⟩ : ∃ v2, xs (i + 2) = v2 := ⟨_, rfl⟩
  refine q_eqR (Rs' := [wX, wO, wA, wB, wL, wH, vO, vA, vB, vL, wT, wK, wP, wQ, wZ, wV, wN, wU, wD, [(o, .inl (cJ, 1, .inr (.inl g)))]]) rfl ?_
  refine q_aload_n C dL_law_1249 1250 3 rfl rfl ?_
  refine q_callV (k := 0) (ci := 5) (n := 0) (rest := []) (Rr := [wB, wH, vO, vA, vB, vL, wT, wK, wP, wQ, wZ, wV, wN, wU, wD, [(o, .inl (cJ, 1, .inr (.inl g)))]]) C rfl (k_isX_recv rX) rfl (c_X6_rightShare l hZ hI hN x aO aY aN hsn aT aK wX rX aB aL aS sc wO rO wA rA ln wL rL) gL_law_X6_rightShare rfl rfl rfl (by decide +kernel) B.1 ⟨Nat.le_of_ble_eq_true rfl, Nat.le_of_ble_eq_true rfl⟩ rfl rfl (Nat.le_of_ble_eq_true rfl) dL_law_1250 ⟨(by show (80 + i) + 0 ≤ 601024; omega), (by show (6951 + 2 * i) + 0 ≤ 7293034; omega)⟩ [0, 1, 2, 4] [3, 5, 6, 7, 8, 9, 10, 11, 12, 13, 14, 15, 16, 17, 18, 19] (by decide : ([0, 1, 2, 4] ++ ([3, 5, 6, 7, 8, 9, 10, 11, 12, 13, 14, 15, 16, 17, 18, 19] : List Nat)).Perm (List.range 20)) rfl rfl 1253 rfl (fun v0 R0 t0 ht0 hp0 => ?_)
  obtain ⟨rfl, rfl⟩ := hp0
  refine q_eqs (st' := [.double (k_sh ln)]) rfl ?_
  refine q_reord [0, 1, 2, 4, 3, 5, 6, 7, 8, 9, 10, 11, 12, 13, 14, 15, 16, 17, 18, 19] (by decide : ([0, 1, 2, 4, 3, 5, 6, 7, 8, 9, 10, 11, 12, 13, 14, 15, 16, 17, 18, 19] : List Nat).Perm (List.range 20)) (Rs' := [wX, wO, wA, wB, wL, wH, vO, vA, vB, vL, wT, wK, wP, wQ, wZ, wV, wN, wU, wD, [(o, .inl (cJ, 1, .inr (.inl g)))]]) rfl rfl ?_
  refine q_dstore C dL_law_1253 1255 rfl [(5, .double (k_sh ln)), (4, .int (nI i)), (3, .ref o), (2, .ref y), (1, .ref x), (0, .ref b)] (by decide) rfl ?_
  refine q_aload_n C dL_law_1255 1256 3 rfl rfl ?_
  refine q_callV (k := 12) (ci := 6) (n := 0) (rest := []) (Rr := [wX, wO, wA, wB, wL, wH, vO, vA, vB, vL, wT, wK, wZ, wV, wN, wU, wD, [(o, .inl (cJ, 1, .inr (.inl g)))]]) C rfl (k_isP_recv rP) rfl (c_X7_rightShare l hZ hI y mS mZ mV mN mU mD fd hh wP rP bx at0 ln sc wQ rQ) gL_law_X7_rightShare rfl rfl rfl (by decide +kernel) B.1 ⟨Nat.le_of_ble_eq_true rfl, Nat.le_of_ble_eq_true rfl⟩ rfl rfl (Nat.le_of_ble_eq_true rfl) dL_law_1256 ⟨(by show (80 + i) + 0 ≤ 601024; omega), (by show (6951 + 2 * i) + 0 ≤ 7293034; omega)⟩ [12, 13] [0, 1, 2, 3, 4, 5, 6, 7, 8, 9, 10, 11, 14, 15, 16, 17, 18, 19] (by decide : ([12, 13] ++ ([0, 1, 2, 3, 4, 5, 6, 7, 8, 9, 10, 11, 14, 15, 16, 17, 18, 19] : List Nat)).Perm (List.range 20)) rfl rfl 1259 rfl (fun v0 R0 t0 ht0 hp0 => ?_)
  obtain ⟨rfl, wP_1256, hwP_1256, rfl⟩ := hp0
  refine q_eqs (st' := [.double (k_sh ln)]) rfl ?_
  refine q_reord [2, 3, 4, 5, 6, 7, 8, 9, 10, 11, 12, 13, 0, 1, 14, 15, 16, 17, 18, 19] (by decide : ([2, 3, 4, 5, 6, 7, 8, 9, 10, 11, 12, 13, 0, 1, 14, 15, 16, 17, 18, 19] : List Nat).Perm (List.range 20)) (Rs' := [wX, wO, wA, wB, wL, wH, vO, vA, vB, vL, wT, wK, wP_1256, wQ, wZ, wV, wN, wU, wD, [(o, .inl (cJ, 1, .inr (.inl g)))]]) rfl rfl ?_
  refine q_dstore C dL_law_1259 1261 rfl [(7, .double (k_sh ln)), (5, .double (k_sh ln)), (4, .int (nI i)), (3, .ref o), (2, .ref y), (1, .ref x), (0, .ref b)] (by decide) rfl ?_
  refine q_dload C dL_law_1261 1263 1 rfl rfl ?_
  refine q_dload C dL_law_1263 1265 0 rfl rfl ?_
  refine q_dcmp C dL_law_1265 1266 rfl ?_
  refine q_if_eq C dL_law_1266 1269 1287 rfl (by decide) Iff.rfl (fun h1266 => ?_) (fun h1266 => False.elim (h1266 (k_sh_nan (by omega))))
  refine q_goto C dL_law_1287 1304 (by decide) ?_
  refine q_sub (L' := [(4, .int (nI i)), (3, .ref o), (2, .ref y), (1, .ref x), (0, .ref b)]) [2, 3, 4, 5, 6] rfl ?_
  refine q_widen (k := 80 + i + 1) (n := 6951 + 2 * i + 6) (by omega) (by omega) ?_
  exact kk _ ⟨(bx, at0, ln, sc), sv, hsn, (sb, sa, sl, ss), (nb, na, nl, ns), tx, upd fd 0 (nI 0), g, _, _, ⟨_, _, _, _, _, _, _, _, _, _, _, _, _, _, _, _, _, _, _, _, _, _, _, _, _, rX, ⟨rO, rA, rB, rL⟩, rH, ⟨gO, gA, gB, gL⟩, rT, rK, rfl⟩, ⟨_, _, _, _, _, _, _, (zb, za, zl, zs), _, _, _, _, _, _, _, _, _, hwP_1256, rQ, rZ, rV, rN, rU, rD, rfl⟩, hIv, hIs, (by rw [pk_un (by decide)]; exact q4), (by rw [pk_un (by decide)]; exact q8), (k_Sn_eq hsn6 (by rw [pk_un (by decide)])), hl6, rfl⟩
  

set_option maxHeartbeats 1000000 in
set_option maxRecDepth 100000 in
theorem law_c24 {p9 : Program} {l : Launch} {e9 : Env} {R : Room} {s9 : State} {m9 : MethodId} {args : Array Value} {below : List Frame} {meth : Method} {c9 : Code} {Q : State → Prop} {D : va_G} {tys : List (ClassId × FieldType)} {A : Nat → Prop} {Z : (Nat → Prop) → State → Heap → Prop} {b LL : Nat} {xs : Nat → Int32} {x y o i : Nat} {Rs : List va_W} (C : q_C p9 s9 m9 args c9 cL_law 9 wsL_law RL D tys Z A) (hZ : q_St Z) {cI cG cJ : ClassId} (hI : tys[0]? = some (cI, .int)) (hG : tys[1]? = some (cG, .object "SortCases$State")) (hJ : tys[2]? = some (cJ, .long)) (hN : q_Ns Z) {ad aw av : Nat → Nat} {tK : Nat} (hKs : q_Ks Z ad aw av tK) {tL tH : Nat} (hVs : q_Vs Z tL tH) (hXs : q_Xs Z) (hlT : l.stackTraces = false) (hXb : va_X b LL xs s9 s9.heap) (hbl : b < s9.heap.size) (hbA : ¬ A b) (hR : R = ({ frames := 12, cells := 601024, slots := 7293034, locals := 454 } : Room)) (hi : i + 3 ≤ LL) (hL : LL ≤ 1536) (hRs : law_I cG cI cJ x y o Rs) (kk : ∀ Rs', law_I cG cI cJ x y o Rs' → q_V p9 l e9 R s9 m9 args below meth c9 D A 9 Q (80 + i + 1) (6951 + 2 * i + 6) 1304 [(4, .int (nI i)), (3, .ref o), (2, .ref y), (1, .ref x), (0, .ref b)] [] Rs') : q_V p9 l e9 R s9 m9 args below meth c9 D A 9 Q (80 + i) (6951 + 2 * i) 1290 [(4, .int (nI i)), (3, .ref o), (2, .ref y), (1, .ref x), (0, .ref b)] [] Rs := by
  have hcI := hI
  have hcG := hG
  have B : R = ({ frames := 12, cells := 601024, slots := 7293034, locals := 454 } : Room) ∧ True := ⟨hR, trivial⟩
  have hts := C.2.2.2.2.1
  obtain ⟨⟨bx, at0, ln, sc⟩, sv, hsn, ⟨sb, sa, sl, ss⟩, ⟨nb, na, nl, ns⟩, tx, fd, g, R1, R2, ⟨aO, aY, aN, aT, aK, aB, aL, aS, naB, naL, naS, kb, ka, wX, wO, wA, wB, wL, wH, vO, vA, vB, vL, wT, wK, rX, ⟨rO, rA, rB, rL⟩, rH, ⟨gO, gA, gB, gL⟩, rT, rK, rfl⟩, ⟨mS, mZ, mV, mN, mU, mD, hh, ⟨zb, za, zl, zs⟩, dx, ps, wP, wQ, wZ, wV, wN, wU, wD, rP, rQ, rZ, rV, rN, rU, rD, rfl⟩, hIv, hIs, q4, q8, hsn6, hl6, rfl⟩ := hRs
  have rO : k_isO cI aO aB aL aS sc wO := rO
  have rA : k_isA cI aS sc wA := rA
  have rB : k_isB cI aB bx at0 wB := rB
  have rL : k_isL cI aL ln wL := rL
  have gO : k_isO cI aN naB naL naS ss vO := gO
  have gA : k_isA cI naS ss vA := gA
  have gB : k_isB cI naB sb sa vB := gB
  have gL : k_isL cI naL sl vL := gL
  have rQ : k_isQ cI mS bx at0 ln sc wQ := rQ
  have rZ : k_isQ cI mZ zb za zl zs wZ := rZ
  have rN : k_isQ cI mN nb na nl ns wN := rN
  have hll : ln.length ≤ 40 := rL.1.1
  have htl : tx.length ≤ 60 := rT.1.1
  obtain ⟨v, hxv⟩ : ∃ v, xs (i + 1) = v := ⟨_, rfl⟩
  obtain ⟨v2, hxv2⟩ : ∃ v2, xs (i + 2) = v2 := ⟨_, rfl⟩
  refine q_eqR (Rs' := [wX, wO, wA, wB, wL, wH, vO, vA, vB, vL, wT, wK, wP, wQ, wZ, wV, wN, wU, wD, [(o, .inl (cJ, 1, .inr (.inl g)))]]) rfl ?_
  obtain ⟨aG, nx, fq, gq, Tq, Wq, hatq, h6q, rfl⟩ := rH
  have rHc : k_isH cG cI aY sv (k_Hc cG aY aG nx sv.length fq ++ k_flat Wq 6) := ⟨aG, nx, fq, gq, Tq, Wq, hatq, h6q, rfl⟩
  have rY : k_isY cI aY aG nx sv.length [(aY, .inr (1, [.ref aG, .int (nI nx), .int (nI sv.length)]))] := rfl
  refine q_resp (Rs' := [wX, wO, wA, wB, wL, [(aY, .inr (1, [.ref aG, .int (nI nx), .int (nI sv.length)]))], ((aG, .inl (cG, 6, .inr (.inr (.inr (.inr fq))))) :: k_flat Wq 6), vO, vA, vB, vL, wT, wK, wP, wQ, wZ, wV, wN, wU, wD, [(o, .inl (cJ, 1, .inr (.inl g)))]]) (by simp [k_Hc]) ?_
  refine q_aload_n C dL_law_1290 1291 3 rfl rfl ?_
  refine q_callV (k := 0) (ci := 5) (n := 0) (rest := []) (Rr := [((aG, .inl (cG, 6, .inr (.inr (.inr (.inr fq))))) :: k_flat Wq 6), vO, vA, vB, vL, wP, wQ, wZ, wV, wN, wU, wD, [(o, .inl (cJ, 1, .inr (.inl g)))]]) C rfl (k_isX_recv rX) rfl (c_X6_digest l hZ hI hN x aO aY aN hsn aT aK wX rX aB aL aS sc wO rO wA rA bx at0 wB rB ln wL rL tx wT rT aG nx sv.length ([(aY, .inr (1, [.ref aG, .int (nI nx), .int (nI sv.length)]))]) rY kb ka wK rK (k_Cv_ty (S := (bx, at0, ln, sc)) rB.2.1 hIv.2) (k_Cv_cs (S := (bx, at0, ln, sc)) hIv.2) (k_Cv_ws (S := (bx, at0, ln, sc)) rB.2.1 hIv.2)) gL_law_X6_digest rfl rfl rfl (by decide +kernel) B.1 ⟨Nat.le_of_ble_eq_true rfl, Nat.le_of_ble_eq_true rfl⟩ rfl rfl (Nat.le_of_ble_eq_true rfl) dL_law_1291 ⟨(by show (80 + i) + 0 ≤ 601024; omega), (by show (6951 + 2 * i) + 0 ≤ 7293034; omega)⟩ [0, 1, 2, 3, 4, 11, 5, 12] [6, 7, 8, 9, 10, 13, 14, 15, 16, 17, 18, 19, 20] (by decide : ([0, 1, 2, 3, 4, 11, 5, 12] ++ ([6, 7, 8, 9, 10, 13, 14, 15, 16, 17, 18, 19, 20] : List Nat)).Perm (List.range 21)) rfl rfl 1294 rfl (fun v0 R0 t0 ht0 hp0 => ?_)
  obtain ⟨rfl, wk_1291, hwk_1291, rfl⟩ := hp0
  refine q_eqs (st' := [.long (k_dig bx at0 ln sc sv.length tx)]) rfl ?_
  refine q_reord [0, 1, 2, 3, 4, 6, 8, 9, 10, 11, 12, 5, 7, 13, 14, 15, 16, 17, 18, 19, 20] (by decide : ([0, 1, 2, 3, 4, 6, 8, 9, 10, 11, 12, 5, 7, 13, 14, 15, 16, 17, 18, 19, 20] : List Nat).Perm (List.range 21)) (Rs' := [wX, wO, wA, wB, wL, [(aY, .inr (1, [.ref aG, .int (nI nx), .int (nI sv.length)]))], ((aG, .inl (cG, 6, .inr (.inr (.inr (.inr fq))))) :: k_flat Wq 6), vO, vA, vB, vL, wT, wk_1291, wP, wQ, wZ, wV, wN, wU, wD, [(o, .inl (cJ, 1, .inr (.inl g)))]]) rfl rfl ?_
  refine q_aload_n C dL_law_1294 1295 2 rfl rfl ?_
  refine q_callV (k := 13) (ci := 6) (n := 0) (rest := [.long (k_dig bx at0 ln sc sv.length tx)]) (Rr := [wX, wO, wA, wB, wL, [(aY, .inr (1, [.ref aG, .int (nI nx), .int (nI sv.length)]))], ((aG, .inl (cG, 6, .inr (.inr (.inr (.inr fq))))) :: k_flat Wq 6), vO, vA, vB, vL, wT, wk_1291, wV, wN, wD, [(o, .inl (cJ, 1, .inr (.inl g)))]]) C rfl (k_isP_recv rP) rfl (c_X7_digest l hZ hI y mS mZ mV mN mU mD fd hh wP rP bx at0 ln sc wQ rQ zb za zl zs wZ rZ tx wU rU sv.length (k_Cv_ty (S := (bx, at0, ln, sc)) rB.2.1 hIv.2) hIv.1.2.1 hIv.1.2.2.1 hIv.1.2.2.2 hl6 q4 q8) gL_law_X7_digest rfl rfl rfl (by decide +kernel) B.1 ⟨Nat.le_of_ble_eq_true rfl, Nat.le_of_ble_eq_true rfl⟩ rfl rfl (Nat.le_of_ble_eq_true rfl) dL_law_1295 ⟨(by show (80 + i) + 0 ≤ 601024; omega), (by show (6951 + 2 * i) + 0 ≤ 7293034; omega)⟩ [13, 14, 15, 18] [0, 1, 2, 3, 4, 5, 6, 7, 8, 9, 10, 11, 12, 16, 17, 19, 20] (by decide : ([13, 14, 15, 18] ++ ([0, 1, 2, 3, 4, 5, 6, 7, 8, 9, 10, 11, 12, 16, 17, 19, 20] : List Nat)).Perm (List.range 21)) rfl rfl 1298 rfl (fun v0 R0 t0 ht0 hp0 => ?_)
  obtain ⟨rfl, wP_1295, hwP_1295, wQ_1295, hwQ_1295, wz_1295, hwz_1295, rfl⟩ := hp0
  refine q_eqs (st' := [.long (k_dig bx at0 ln sc sv.length tx), .long (k_dig bx at0 ln sc sv.length tx)]) rfl ?_
  refine q_reord [4, 5, 6, 7, 8, 9, 10, 11, 12, 13, 14, 15, 16, 0, 1, 2, 17, 18, 3, 19, 20] (by decide : ([4, 5, 6, 7, 8, 9, 10, 11, 12, 13, 14, 15, 16, 0, 1, 2, 17, 18, 3, 19, 20] : List Nat).Perm (List.range 21)) (Rs' := [wX, wO, wA, wB, wL, [(aY, .inr (1, [.ref aG, .int (nI nx), .int (nI sv.length)]))], ((aG, .inl (cG, 6, .inr (.inr (.inr (.inr fq))))) :: k_flat Wq 6), vO, vA, vB, vL, wT, wk_1291, wP_1295, wQ_1295, wz_1295, wV, wN, wU, wD, [(o, .inl (cJ, 1, .inr (.inl g)))]]) rfl rfl ?_
  refine q_lcmp C dL_law_1298 1299 rfl ?_
  refine q_if_eq C dL_law_1299 1302 1304 rfl (by decide) Iff.rfl (fun h1299 => ?_) (fun h1299 => False.elim (h1299 (lg_self _)))
  refine q_resp (Rs' := [wX, wO, wA, wB, wL, (k_Hc cG aY aG nx sv.length fq ++ k_flat Wq 6), vO, vA, vB, vL, wT, wk_1291, wP_1295, wQ_1295, wz_1295, wV, wN, wU, wD, [(o, .inl (cJ, 1, .inr (.inl g)))]]) (by simp [k_Hc]) ?_
  refine q_sub (L' := [(4, .int (nI i)), (3, .ref o), (2, .ref y), (1, .ref x), (0, .ref b)]) [0, 1, 2, 3, 4] rfl ?_
  refine q_widen (k := 80 + i + 1) (n := 6951 + 2 * i + 6) (by omega) (by omega) ?_
  exact kk _ ⟨(bx, at0, ln, sc), sv, hsn, (sb, sa, sl, ss), (nb, na, nl, ns), tx, upd (upd (upd fd 0 (nI 0)) 13 (nI (k_lm bx at0 (-1) (k_T bx at0)))) 14 (nI (k_wr (k_bs bx at0 (-1) (k_T bx at0)).1)), g, _, _, ⟨_, _, _, _, _, _, _, _, _, _, _, _, _, _, _, _, _, _, _, _, _, _, _, _, _, rX, ⟨rO, rA, rB, rL⟩, rHc, ⟨gO, gA, gB, gL⟩, rT, hwk_1291, rfl⟩, ⟨_, _, _, _, _, _, _, (bx, at0, ln, sc), _, _, _, _, _, _, _, _, _, hwP_1295, hwQ_1295, hwz_1295, rV, rN, rU, rD, rfl⟩, hIv, hIs, (by rw [pk_un (by decide), pk_un (by decide), pk_un (by decide)]; exact q4), (by rw [pk_un (by decide), pk_un (by decide), pk_un (by decide)]; exact q8), (k_Sn_eq hsn6 (by rw [pk_un (by decide), pk_un (by decide), pk_un (by decide)])), hl6, rfl⟩
  
