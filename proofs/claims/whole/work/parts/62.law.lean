set_option maxHeartbeats 1000000 in
set_option maxRecDepth 100000 in
theorem law_c0 {p9 : Program} {l : Launch} {e9 : Env} {R : Room} {s9 : State} {m9 : MethodId} {args : Array Value} {below : List Frame} {meth : Method} {c9 : Code} {Q : State → Prop} {D : va_G} {tys : List (ClassId × FieldType)} {A : Nat → Prop} {Z : (Nat → Prop) → State → Heap → Prop} {b LL : Nat} {xs : Nat → Int32} {x y o i : Nat} {Rs : List va_W} (C : q_C p9 s9 m9 args c9 cL_law 9 wsL_law RL D tys Z A) (hZ : q_St Z) {cI cG cJ : ClassId} (hI : tys[0]? = some (cI, .int)) (hG : tys[1]? = some (cG, .object "SortCases$State")) (hJ : tys[2]? = some (cJ, .long)) (hN : q_Ns Z) {ad aw av : Nat → Nat} {tK : Nat} (hKs : q_Ks Z ad aw av tK) {tL tH : Nat} (hVs : q_Vs Z tL tH) (hXs : q_Xs Z) (hlT : l.stackTraces = false) (hXb : va_X b LL xs s9 s9.heap) (hbl : b < s9.heap.size) (hbA : ¬ A b) (hR : R = ({ frames := 12, cells := 601024, slots := 7293034, locals := 454 } : Room)) (hi : i + 3 ≤ LL) (hL : LL ≤ 1536) (hRs : law_I cG cI cJ x y o Rs) (kk : ∀ Rs', law_I cG cI cJ x y o Rs' → q_V p9 l e9 R s9 m9 args below meth c9 D A 9 Q (80 + i + 1) (6951 + 2 * i + 6) 1304 [(4, .int (nI i)), (3, .ref o), (2, .ref y), (1, .ref x), (0, .ref b)] [] Rs') : q_V p9 l e9 R s9 m9 args below meth c9 D A 9 Q (80 + i) (6951 + 2 * i) 152 [(4, .int (nI i)), (3, .ref o), (2, .ref y), (1, .ref x), (0, .ref b)] [] Rs := by
  have hcI := hI
  have hcG := hG
  have B : R = ({ frames := 12, cells := 601024, slots := 7293034, locals := 454 } : Room) ∧ True := ⟨hR, trivial⟩
  have hts := C.2.2.2.2.1
  obtain ⟨⟨bx, at0, ln, sc⟩, sv, hsn, ⟨sb, sa, sl, ss⟩, ⟨nb, na, nl, ns⟩, tx, fd, g, R1, R2, ⟨aO, aY, aN, aT, aK, aB, aL, aS, naB, naL, naS, kb, ka, wX, wO, wA, wB, wL, wH, vO, vA, vB, vL, wT, wK, rX, ⟨rO, rA, rB, rL⟩, rH, ⟨gO, gA, gB, gL⟩, rT, rK, rfl⟩, ⟨mS, mZ, mV, mN, mU, mD, hh, ⟨zb, za, zl, zs⟩, dx, ps, wP, wQ, wZ, wV, wN, wU, wD, rP, rQ, rZ, rV, rN, rU, rD, rfl⟩, hIv, hIs, q4, q8, hsn6, hl6, rfl⟩ := hRs
  have rO : k_isO cI aO aB aL aS sc wO := rO
  have rA : k_isA cI aS sc wA := rA
  have rB : k_isB cI aB bx at0 wB := rB
  have rL : k_isL cI aL ln wL := rL
  have gO : k_isO cI aN naB naL naS ss vO := gO
  have gA : k_isA cI naS ss vA := gA
  have gB : k_isB cI naB sb sa vB := gB
  have gL : k_isL cI naL sl vL := gL
  have rQ : k_isQ cI mS bx at0 ln sc wQ := rQ
  have rZ : k_isQ cI mZ zb za zl zs wZ := rZ
  have rN : k_isQ cI mN nb na nl ns wN := rN
  have hll : ln.length ≤ 40 := rL.1.1
  have htl : tx.length ≤ 60 := rT.1.1
  obtain ⟨v, hxv⟩ : ∃ v, xs (i + 1) = v := ⟨_, rfl⟩
  obtain ⟨v2, hxv2⟩ : ∃ v2, xs (i + 2) = v2 := ⟨_, rfl⟩
  refine q_eqR (Rs' := [wX, wO, wA, wB, wL, wH, vO, vA, vB, vL, wT, wK, wP, wQ, wZ, wV, wN, wU, wD, [(o, .inl (cJ, 1, .inr (.inl g)))]]) rfl ?_
  by_cases hv : (0 : Int32) ≤ v ∧ v < 12
  · obtain ⟨c, hc, rfl⟩ := k_ex12 hv
    by_cases hw : k_wn bx ln sc c = 0
    · refine q_aload_n C dL_law_152 153 3 rfl rfl ?_
      refine q_aload_n C dL_law_153 154 4 rfl rfl ?_
      refine q_iload C dL_law_154 156 0 rfl rfl ?_
      refine q_iconst (v := nI 1) C dL_law_156 157 rfl (by decide) ?_
      refine q_iadd (v := nI (i + 1)) C dL_law_157 158 rfl (q_nadd (by omega)) ?_
      refine q_sld (v := nI c) C hXb hbl hbA (i + 1) rfl (by omega) (by omega) hxv dL_law_158 159 rfl ?_
      refine q_aload_n C dL_law_159 160 1 rfl rfl ?_
      refine q_reord [0, 1, 2, 3, 4, 5, 19, 6, 7, 8, 9, 10, 11, 12, 13, 14, 15, 16, 17, 18] (by decide : ([0, 1, 2, 3, 4, 5, 19, 6, 7, 8, 9, 10, 11, 12, 13, 14, 15, 16, 17, 18] : List Nat).Perm (List.range 20)) (Rs' := [wX, wO, wA, wB, wL, wH, [(o, .inl (cJ, 1, .inr (.inl g)))], vO, vA, vB, vL, wT, wK, wP, wQ, wZ, wV, wN, wU, wD]) rfl rfl ?_
      refine q_resp (Rs' := [[wX, wO, wA, wB, wL, wH].flatten, [(o, .inl (cJ, 1, .inr (.inl g)))], vO, vA, vB, vL, wT, wK, wP, wQ, wZ, wV, wN, wU, wD]) (by simp) ?_
      refine q_callSW (n := 3) (As := [.ref x, .int (nI c), .ref o]) (rest := []) (Rr := [vO, vA, vB, vL, wT, wK, wP, wQ, wZ, wV, wN, wU, wD]) C (c_L_set_ok l hZ hJ x o (nI c) (r := nI (k_x bx c)) (q_hd (k_isX_recv rX)) (q_Cflat (List.append_nil _).symm (c_X6_set_c l hZ hI hN hG x aO aY aN hsn aT aK wX rX aB aL aS sc wO rO wA rA bx at0 wB rB ln wL rL sv wH rH c (by omega) hw hIv.1)) (Nat.le_of_ble_eq_true rfl) (Nat.le_of_ble_eq_true rfl) rfl rfl (fun _ _ _ h => h.1) g) gL_law_L_set rfl rfl rfl (by decide +kernel) B.1 ⟨Nat.le_of_ble_eq_true rfl, Nat.le_of_ble_eq_true rfl⟩ rfl rfl (Nat.le_of_ble_eq_true rfl) dL_law_160 ⟨(by show (80 + i) + 0 ≤ 601024; omega), (by show (6951 + 2 * i) + 0 ≤ 7293034; omega)⟩ [0, 1] [2, 3, 4, 5, 6, 7, 8, 9, 10, 11, 12, 13, 14] (by decide : ([0, 1] ++ ([2, 3, 4, 5, 6, 7, 8, 9, 10, 11, 12, 13, 14] : List Nat)).Perm (List.range 15)) rfl rfl 163 rfl (fun v0 R0 t0 ht0 hp0 => ?_)
      obtain ⟨rfl, R1, t1, ⟨-, wO_160, hwO_160, wA_160, hwA_160, wB_160, hwB_160, wL_160, hwL_160, wH_160, hwH_160, rfl⟩, rfl⟩ := hp0
      refine q_eqs (st' := [.int (nI 0)]) rfl ?_
      refine q_resp (Rs' := [wX, wO_160, wA_160, wB_160, wL_160, wH_160, [(o, .inl (cJ, 1, .inr (.inl (va_up g 0 (nI (k_x bx c)).toInt64))))], vO, vA, vB, vL, wT, wK, wP, wQ, wZ, wV, wN, wU, wD]) (by simp) ?_
      refine q_reord [0, 1, 2, 3, 4, 5, 7, 8, 9, 10, 11, 12, 13, 14, 15, 16, 17, 18, 19, 6] (by decide : ([0, 1, 2, 3, 4, 5, 7, 8, 9, 10, 11, 12, 13, 14, 15, 16, 17, 18, 19, 6] : List Nat).Perm (List.range 20)) (Rs' := [wX, wO_160, wA_160, wB_160, wL_160, wH_160, vO, vA, vB, vL, wT, wK, wP, wQ, wZ, wV, wN, wU, wD, [(o, .inl (cJ, 1, .inr (.inl (va_up g 0 (nI (k_x bx c)).toInt64))))]]) rfl rfl ?_
      refine q_istore C dL_law_163 165 rfl [(5, .int (nI 0)), (4, .int (nI i)), (3, .ref o), (2, .ref y), (1, .ref x), (0, .ref b)] (by decide) rfl ?_
      refine q_aload_n C dL_law_165 166 3 rfl rfl ?_
      refine q_aload_n C dL_law_166 167 5 rfl rfl ?_
      refine q_iload C dL_law_167 169 1 rfl rfl ?_
      refine q_iconst (v := nI 1) C dL_law_169 170 rfl (by decide) ?_
      refine q_iadd (v := nI (i + 1)) C dL_law_170 171 rfl (q_nadd (by omega)) ?_
      refine q_sld (v := nI c) C hXb hbl hbA (i + 1) rfl (by omega) (by omega) hxv dL_law_171 172 rfl ?_
      refine q_callV (k := 12) (ci := 6) (n := 1) (rest := []) (Rr := [wX, wO_160, wA_160, wB_160, wL_160, wH_160, vO, vA, vB, vL, wT, wK, wZ, wN, wU, wD, [(o, .inl (cJ, 1, .inr (.inl (va_up g 0 (nI (k_x bx c)).toInt64))))]]) C rfl (k_isP_recv rP) rfl (c_X7_set_c l hZ hI y mS mZ mV mN mU mD fd hh wP rP bx at0 ln sc wQ rQ sv wV rV c (by omega) hw q4 (k_Sw_40 hIv.1 hw) hIv.1.2.2.1 hIv.1.2.2.2) gL_law_X7_set rfl rfl rfl (by decide +kernel) B.1 ⟨Nat.le_of_ble_eq_true rfl, Nat.le_of_ble_eq_true rfl⟩ rfl rfl (Nat.le_of_ble_eq_true rfl) dL_law_172 ⟨(by show ((80 + i) + 0) + 0 ≤ 601024; omega), (by show ((6951 + 2 * i) + 0) + 0 ≤ 7293034; omega)⟩ [12, 13, 15] [0, 1, 2, 3, 4, 5, 6, 7, 8, 9, 10, 11, 14, 16, 17, 18, 19] (by decide : ([12, 13, 15] ++ ([0, 1, 2, 3, 4, 5, 6, 7, 8, 9, 10, 11, 14, 16, 17, 18, 19] : List Nat)).Perm (List.range 20)) rfl rfl 175 rfl (fun v0 R0 t0 ht0 hp0 => ?_)
      obtain ⟨rfl, wP_172, hwP_172, wQ_172, hwQ_172, wV_172, hwV_172, rfl⟩ := hp0
      refine q_eqs (st' := [.int (nI (k_x bx c))]) rfl ?_
      refine q_reord [3, 4, 5, 6, 7, 8, 9, 10, 11, 12, 13, 14, 0, 1, 15, 2, 16, 17, 18, 19] (by decide : ([3, 4, 5, 6, 7, 8, 9, 10, 11, 12, 13, 14, 0, 1, 15, 2, 16, 17, 18, 19] : List Nat).Perm (List.range 20)) (Rs' := [wX, wO_160, wA_160, wB_160, wL_160, wH_160, vO, vA, vB, vL, wT, wK, wP_172, wQ_172, wZ, wV_172, wN, wU, wD, [(o, .inl (cJ, 1, .inr (.inl (va_up g 0 (nI (k_x bx c)).toInt64))))]]) rfl rfl ?_
      refine q_istore C dL_law_175 177 rfl [(6, .int (nI (k_x bx c))), (5, .int (nI 0)), (4, .int (nI i)), (3, .ref o), (2, .ref y), (1, .ref x), (0, .ref b)] (by decide) rfl ?_
      refine q_aload_n C dL_law_177 178 4 rfl rfl ?_
      refine q_callV (k := 12) (ci := 6) (n := 0) (rest := []) (Rr := [wX, wO_160, wA_160, wB_160, wL_160, wH_160, vO, vA, vB, vL, wT, wK, wQ_172, wZ, wV_172, wN, wU, wD, [(o, .inl (cJ, 1, .inr (.inl (va_up g 0 (nI (k_x bx c)).toInt64))))]]) C rfl (k_isP_recv hwP_172) rfl (c_X7_thrown l hZ hI y mS mZ mV mN mU mD (upd (upd fd 0 (nI 0)) 4 (nI (k_sav sv (bx, at0, ln, sc)).length)) hh wP_172 hwP_172) gL_law_X7_thrown rfl rfl rfl (by decide +kernel) B.1 ⟨Nat.le_of_ble_eq_true rfl, Nat.le_of_ble_eq_true rfl⟩ rfl rfl (Nat.le_of_ble_eq_true rfl) dL_law_178 ⟨(by show ((80 + i) + 0) + 0 ≤ 601024; omega), (by show ((6951 + 2 * i) + 0) + 0 ≤ 7293034; omega)⟩ [12] [0, 1, 2, 3, 4, 5, 6, 7, 8, 9, 10, 11, 13, 14, 15, 16, 17, 18, 19] (by decide : ([12] ++ ([0, 1, 2, 3, 4, 5, 6, 7, 8, 9, 10, 11, 13, 14, 15, 16, 17, 18, 19] : List Nat)).Perm (List.range 20)) rfl rfl 181 rfl (fun v0 R0 t0 ht0 hp0 => ?_)
      obtain ⟨rfl, rfl⟩ := hp0
      refine q_eqs (st' := [.int ((upd (upd fd 0 (nI 0)) 4 (nI (k_sav sv (bx, at0, ln, sc)).length)) 0)]) rfl ?_
      refine q_reord [1, 2, 3, 4, 5, 6, 7, 8, 9, 10, 11, 12, 0, 13, 14, 15, 16, 17, 18, 19] (by decide : ([1, 2, 3, 4, 5, 6, 7, 8, 9, 10, 11, 12, 0, 13, 14, 15, 16, 17, 18, 19] : List Nat).Perm (List.range 20)) (Rs' := [wX, wO_160, wA_160, wB_160, wL_160, wH_160, vO, vA, vB, vL, wT, wK, wP_172, wQ_172, wZ, wV_172, wN, wU, wD, [(o, .inl (cJ, 1, .inr (.inl (va_up g 0 (nI (k_x bx c)).toInt64))))]]) rfl rfl ?_
      refine q_eqs (st' := [.int (nI 0)]) (by rw [pk_un (by decide), pk_us]) ?_
      refine q_iload C dL_law_181 183 1 rfl rfl ?_
      refine q_icmp_eq C dL_law_183 186 188 rfl (by decide) (nI_eq (by omega) (by omega)) (fun h183 => ?_) (fun h183 => False.elim (by first | omega | simp_all))
      refine q_iload C dL_law_188 190 1 rfl rfl ?_
      refine q_if_ne C dL_law_190 193 205 rfl (by decide) (q_eq0 (by omega)) (fun h190 => False.elim (by first | omega | simp_all)) (fun h190 => ?_)
      refine q_aload_n C dL_law_193 194 3 rfl rfl ?_
      refine q_iconst (v := nI 0) C dL_law_194 195 rfl (by decide) ?_
      refine q_lald (k := 19) (j := 0) (v := (nI (k_x bx c)).toInt64) C dL_law_195 196 rfl rfl rfl hJ 0 rfl (by decide) (by decide) k_up_s ?_
      refine q_iload C dL_law_196 198 0 rfl rfl ?_
      refine q_i2l (v := ((nI (k_x bx c)) : Int32).toInt64) C dL_law_198 199 rfl rfl ?_
      refine q_lcmp C dL_law_199 200 rfl ?_
      refine q_if_eq C dL_law_200 203 205 rfl (by decide) Iff.rfl (fun h200 => ?_) (fun h200 => False.elim (h200 (lg_self _)))
      refine q_goto C dL_law_205 1304 (by decide) ?_
      refine q_sub (L' := [(4, .int (nI i)), (3, .ref o), (2, .ref y), (1, .ref x), (0, .ref b)]) [2, 3, 4, 5, 6] rfl ?_
      refine q_widen (k := 80 + i + 1) (n := 6951 + 2 * i + 6) (by omega) (by omega) ?_
      exact kk _ ⟨k_set (bx, at0, ln, sc) c, (k_sav sv (bx, at0, ln, sc)), hsn, (sb, sa, sl, ss), (nb, na, nl, ns), tx, upd (upd fd 0 (nI 0)) 4 (nI (k_sav sv (bx, at0, ln, sc)).length), va_up g 0 (nI (k_x bx c)).toInt64, _, _, ⟨_, _, _, _, _, _, _, _, _, _, _, _, _, _, _, _, _, _, _, _, _, _, _, _, _, rX, ⟨hwO_160, hwA_160, hwB_160, hwL_160⟩, hwH_160, ⟨gO, gA, gB, gL⟩, rT, rK, rfl⟩, ⟨_, _, _, _, _, _, _, (zb, za, zl, zs), _, _, _, _, _, _, _, _, _, hwP_172, hwQ_172, rZ, hwV_172, rN, rU, rD, rfl⟩, (k_Iv_set hIv hc hw), (k_Iv_sav hIs hIv), (by rw [pk_us]), (by rw [pk_un (by decide), pk_un (by decide)]; exact q8), (k_Sn_eq hsn6 (by rw [pk_un (by decide), pk_un (by decide)])), (k_sav_6' hl6), rfl⟩
      
    · refine q_aload_n C dL_law_152 153 3 rfl rfl ?_
      refine q_aload_n C dL_law_153 154 4 rfl rfl ?_
      refine q_iload C dL_law_154 156 0 rfl rfl ?_
      refine q_iconst (v := nI 1) C dL_law_156 157 rfl (by decide) ?_
      refine q_iadd (v := nI (i + 1)) C dL_law_157 158 rfl (q_nadd (by omega)) ?_
      refine q_sld (v := nI c) C hXb hbl hbA (i + 1) rfl (by omega) (by omega) hxv dL_law_158 159 rfl ?_
      refine q_aload_n C dL_law_159 160 1 rfl rfl ?_
      refine q_reord [0, 1, 2, 3, 4, 19, 5, 6, 7, 8, 9, 10, 11, 12, 13, 14, 15, 16, 17, 18] (by decide : ([0, 1, 2, 3, 4, 19, 5, 6, 7, 8, 9, 10, 11, 12, 13, 14, 15, 16, 17, 18] : List Nat).Perm (List.range 20)) (Rs' := [wX, wO, wA, wB, wL, [(o, .inl (cJ, 1, .inr (.inl g)))], wH, vO, vA, vB, vL, wT, wK, wP, wQ, wZ, wV, wN, wU, wD]) rfl rfl ?_
      refine q_resp (Rs' := [[wX, wO, wA, wB, wL].flatten, [(o, .inl (cJ, 1, .inr (.inl g)))], wH, vO, vA, vB, vL, wT, wK, wP, wQ, wZ, wV, wN, wU, wD]) (by simp) ?_
      refine q_callSW (n := 3) (As := [.ref x, .int (nI c), .ref o]) (rest := []) (Rr := [wH, vO, vA, vB, vL, wT, wK, wP, wQ, wZ, wV, wN, wU, wD]) C (c_L_set_x2 l hZ hJ hXs x o (nI c) (q_hd (k_isX_recv rX)) (q_Xflat (List.append_nil _).symm (c_X6_set_b l hZ hI hN hG hXs hlT x aO aY aN hsn aT aK wX rX aB aL aS sc wO rO wA rA bx at0 wB rB ln wL rL c (by omega) hw)) (Nat.le_of_ble_eq_true rfl) (Nat.le_of_ble_eq_true rfl) rfl rfl g) gL_law_L_set rfl rfl rfl (by decide +kernel) B.1 ⟨Nat.le_of_ble_eq_true rfl, Nat.le_of_ble_eq_true rfl⟩ rfl rfl (Nat.le_of_ble_eq_true rfl) dL_law_160 ⟨(by show (80 + i) + 1 ≤ 601024; omega), (by show (6951 + 2 * i) + 6 ≤ 7293034; omega)⟩ [0, 1] [2, 3, 4, 5, 6, 7, 8, 9, 10, 11, 12, 13, 14, 15] (by decide : ([0, 1] ++ ([2, 3, 4, 5, 6, 7, 8, 9, 10, 11, 12, 13, 14, 15] : List Nat)).Perm (List.range 16)) rfl rfl 163 rfl (fun v0 R0 t0 ht0 hp0 => ?_)
      obtain ⟨rfl, rfl⟩ := hp0
      refine q_eqs (st' := [.int (nI 2)]) rfl ?_
      refine q_resp (Rs' := [wX, wO, wA, wB, wL, [(o, .inl (cJ, 1, .inr (.inl g)))], wH, vO, vA, vB, vL, wT, wK, wP, wQ, wZ, wV, wN, wU, wD]) (by simp) ?_
      refine q_reord [0, 1, 2, 3, 4, 6, 7, 8, 9, 10, 11, 12, 13, 14, 15, 16, 17, 18, 19, 5] (by decide : ([0, 1, 2, 3, 4, 6, 7, 8, 9, 10, 11, 12, 13, 14, 15, 16, 17, 18, 19, 5] : List Nat).Perm (List.range 20)) (Rs' := [wX, wO, wA, wB, wL, wH, vO, vA, vB, vL, wT, wK, wP, wQ, wZ, wV, wN, wU, wD, [(o, .inl (cJ, 1, .inr (.inl g)))]]) rfl rfl ?_
      refine q_istore C dL_law_163 165 rfl [(5, .int (nI 2)), (4, .int (nI i)), (3, .ref o), (2, .ref y), (1, .ref x), (0, .ref b)] (by decide) rfl ?_
      refine q_aload_n C dL_law_165 166 3 rfl rfl ?_
      refine q_aload_n C dL_law_166 167 5 rfl rfl ?_
      refine q_iload C dL_law_167 169 1 rfl rfl ?_
      refine q_iconst (v := nI 1) C dL_law_169 170 rfl (by decide) ?_
      refine q_iadd (v := nI (i + 1)) C dL_law_170 171 rfl (q_nadd (by omega)) ?_
      refine q_sld (v := nI c) C hXb hbl hbA (i + 1) rfl (by omega) (by omega) hxv dL_law_171 172 rfl ?_
      refine q_callV (k := 12) (ci := 6) (n := 1) (rest := []) (Rr := [wX, wO, wA, wB, wL, wH, vO, vA, vB, vL, wT, wK, wZ, wV, wN, wU, wD, [(o, .inl (cJ, 1, .inr (.inl g)))]]) C rfl (k_isP_recv rP) rfl (c_X7_set_b l hZ hI y mS mZ mV mN mU mD fd hh wP rP bx at0 ln sc wQ rQ c (by omega) hw) gL_law_X7_set rfl rfl rfl (by decide +kernel) B.1 ⟨Nat.le_of_ble_eq_true rfl, Nat.le_of_ble_eq_true rfl⟩ rfl rfl (Nat.le_of_ble_eq_true rfl) dL_law_172 ⟨(by show ((80 + i) + 1) + 0 ≤ 601024; omega), (by show ((6951 + 2 * i) + 6) + 0 ≤ 7293034; omega)⟩ [12, 13] [0, 1, 2, 3, 4, 5, 6, 7, 8, 9, 10, 11, 14, 15, 16, 17, 18, 19] (by decide : ([12, 13] ++ ([0, 1, 2, 3, 4, 5, 6, 7, 8, 9, 10, 11, 14, 15, 16, 17, 18, 19] : List Nat)).Perm (List.range 20)) rfl rfl 175 rfl (fun v0 R0 t0 ht0 hp0 => ?_)
      obtain ⟨rfl, wP_172, hwP_172, rfl⟩ := hp0
      refine q_eqs (st' := [.int (nI 0)]) rfl ?_
      refine q_reord [2, 3, 4, 5, 6, 7, 8, 9, 10, 11, 12, 13, 0, 1, 14, 15, 16, 17, 18, 19] (by decide : ([2, 3, 4, 5, 6, 7, 8, 9, 10, 11, 12, 13, 0, 1, 14, 15, 16, 17, 18, 19] : List Nat).Perm (List.range 20)) (Rs' := [wX, wO, wA, wB, wL, wH, vO, vA, vB, vL, wT, wK, wP_172, wQ, wZ, wV, wN, wU, wD, [(o, .inl (cJ, 1, .inr (.inl g)))]]) rfl rfl ?_
      refine q_istore C dL_law_175 177 rfl [(6, .int (nI 0)), (5, .int (nI 2)), (4, .int (nI i)), (3, .ref o), (2, .ref y), (1, .ref x), (0, .ref b)] (by decide) rfl ?_
      refine q_aload_n C dL_law_177 178 4 rfl rfl ?_
      refine q_callV (k := 12) (ci := 6) (n := 0) (rest := []) (Rr := [wX, wO, wA, wB, wL, wH, vO, vA, vB, vL, wT, wK, wQ, wZ, wV, wN, wU, wD, [(o, .inl (cJ, 1, .inr (.inl g)))]]) C rfl (k_isP_recv hwP_172) rfl (c_X7_thrown l hZ hI y mS mZ mV mN mU mD (upd (upd fd 0 (nI 0)) 0 (nI 2)) hh wP_172 hwP_172) gL_law_X7_thrown rfl rfl rfl (by decide +kernel) B.1 ⟨Nat.le_of_ble_eq_true rfl, Nat.le_of_ble_eq_true rfl⟩ rfl rfl (Nat.le_of_ble_eq_true rfl) dL_law_178 ⟨(by show ((80 + i) + 1) + 0 ≤ 601024; omega), (by show ((6951 + 2 * i) + 6) + 0 ≤ 7293034; omega)⟩ [12] [0, 1, 2, 3, 4, 5, 6, 7, 8, 9, 10, 11, 13, 14, 15, 16, 17, 18, 19] (by decide : ([12] ++ ([0, 1, 2, 3, 4, 5, 6, 7, 8, 9, 10, 11, 13, 14, 15, 16, 17, 18, 19] : List Nat)).Perm (List.range 20)) rfl rfl 181 rfl (fun v0 R0 t0 ht0 hp0 => ?_)
      obtain ⟨rfl, rfl⟩ := hp0
      refine q_eqs (st' := [.int ((upd (upd fd 0 (nI 0)) 0 (nI 2)) 0)]) rfl ?_
      refine q_reord [1, 2, 3, 4, 5, 6, 7, 8, 9, 10, 11, 12, 0, 13, 14, 15, 16, 17, 18, 19] (by decide : ([1, 2, 3, 4, 5, 6, 7, 8, 9, 10, 11, 12, 0, 13, 14, 15, 16, 17, 18, 19] : List Nat).Perm (List.range 20)) (Rs' := [wX, wO, wA, wB, wL, wH, vO, vA, vB, vL, wT, wK, wP_172, wQ, wZ, wV, wN, wU, wD, [(o, .inl (cJ, 1, .inr (.inl g)))]]) rfl rfl ?_
      refine q_eqs (st' := [.int (nI 2)]) (by rw [pk_us]) ?_
      refine q_iload C dL_law_181 183 1 rfl rfl ?_
      refine q_icmp_eq C dL_law_183 186 188 rfl (by decide) (nI_eq (by omega) (by omega)) (fun h183 => ?_) (fun h183 => False.elim (by first | omega | simp_all))
      refine q_iload C dL_law_188 190 1 rfl rfl ?_
      refine q_if_ne C dL_law_190 193 205 rfl (by decide) (q_eq0 (by omega)) (fun h190 => ?_) (fun h190 => False.elim (by first | omega | simp_all))
      refine q_goto C dL_law_205 1304 (by decide) ?_
      refine q_sub (L' := [(4, .int (nI i)), (3, .ref o), (2, .ref y), (1, .ref x), (0, .ref b)]) [2, 3, 4, 5, 6] rfl ?_
      refine q_widen (k := 80 + i + 1) (n := 6951 + 2 * i + 6) (by omega) (by omega) ?_
      exact kk _ ⟨(bx, at0, ln, sc), sv, hsn, (sb, sa, sl, ss), (nb, na, nl, ns), tx, upd (upd fd 0 (nI 0)) 0 (nI 2), g, _, _, ⟨_, _, _, _, _, _, _, _, _, _, _, _, _, _, _, _, _, _, _, _, _, _, _, _, _, rX, ⟨rO, rA, rB, rL⟩, rH, ⟨gO, gA, gB, gL⟩, rT, rK, rfl⟩, ⟨_, _, _, _, _, _, _, (zb, za, zl, zs), _, _, _, _, _, _, _, _, _, hwP_172, rQ, rZ, rV, rN, rU, rD, rfl⟩, hIv, hIs, (by rw [pk_un (by decide), pk_un (by decide)]; exact q4), (by rw [pk_un (by decide), pk_un (by decide)]; exact q8), (k_Sn_eq hsn6 (by rw [pk_un (by decide), pk_un (by decide)])), hl6, rfl⟩
      
  · refine q_aload_n C dL_law_152 153 3 rfl rfl ?_
    refine q_aload_n C dL_law_153 154 4 rfl rfl ?_
    refine q_iload C dL_law_154 156 0 rfl rfl ?_
    refine q_iconst (v := nI 1) C dL_law_156 157 rfl (by decide) ?_
    refine q_iadd (v := nI (i + 1)) C dL_law_157 158 rfl (q_nadd (by omega)) ?_
    refine q_sld (v := v) C hXb hbl hbA (i + 1) rfl (by omega) (by omega) hxv dL_law_158 159 rfl ?_
    refine q_aload_n C dL_law_159 160 1 rfl rfl ?_
    refine q_reord [0, 19, 1, 2, 3, 4, 5, 6, 7, 8, 9, 10, 11, 12, 13, 14, 15, 16, 17, 18] (by decide : ([0, 19, 1, 2, 3, 4, 5, 6, 7, 8, 9, 10, 11, 12, 13, 14, 15, 16, 17, 18] : List Nat).Perm (List.range 20)) (Rs' := [wX, [(o, .inl (cJ, 1, .inr (.inl g)))], wO, wA, wB, wL, wH, vO, vA, vB, vL, wT, wK, wP, wQ, wZ, wV, wN, wU, wD]) rfl rfl ?_
    refine q_resp (Rs' := [[wX].flatten, [(o, .inl (cJ, 1, .inr (.inl g)))], wO, wA, wB, wL, wH, vO, vA, vB, vL, wT, wK, wP, wQ, wZ, wV, wN, wU, wD]) (by simp) ?_
    refine q_callSW (n := 3) (As := [.ref x, .int v, .ref o]) (rest := []) (Rr := [wO, wA, wB, wL, wH, vO, vA, vB, vL, wT, wK, wP, wQ, wZ, wV, wN, wU, wD]) C (c_L_set_x1 l hZ hJ hXs x o v (q_hd (k_isX_recv rX)) (q_Xflat (List.append_nil _).symm (c_X6_set_a l hZ hI hN hG hXs hlT x aO aY aN hsn aT aK wX rX v hv)) (Nat.le_of_ble_eq_true rfl) (Nat.le_of_ble_eq_true rfl) rfl rfl g) gL_law_L_set rfl rfl rfl (by decide +kernel) B.1 ⟨Nat.le_of_ble_eq_true rfl, Nat.le_of_ble_eq_true rfl⟩ rfl rfl (Nat.le_of_ble_eq_true rfl) dL_law_160 ⟨(by show (80 + i) + 1 ≤ 601024; omega), (by show (6951 + 2 * i) + 6 ≤ 7293034; omega)⟩ [0, 1] [2, 3, 4, 5, 6, 7, 8, 9, 10, 11, 12, 13, 14, 15, 16, 17, 18, 19] (by decide : ([0, 1] ++ ([2, 3, 4, 5, 6, 7, 8, 9, 10, 11, 12, 13, 14, 15, 16, 17, 18, 19] : List Nat)).Perm (List.range 20)) rfl rfl 163 rfl (fun v0 R0 t0 ht0 hp0 => ?_)
    obtain ⟨rfl, rfl⟩ := hp0
    refine q_eqs (st' := [.int (nI 1)]) rfl ?_
    refine q_resp (Rs' := [wX, [(o, .inl (cJ, 1, .inr (.inl g)))], wO, wA, wB, wL, wH, vO, vA, vB, vL, wT, wK, wP, wQ, wZ, wV, wN, wU, wD]) (by simp) ?_
    refine q_reord [0, 2, 3, 4, 5, 6, 7, 8, 9, 10, 11, 12, 13, 14, 15, 16, 17, 18, 19, 1] (by decide : ([0, 2, 3, 4, 5, 6, 7, 8, 9, 10, 11, 12, 13, 14, 15, 16, 17, 18, 19, 1] : List Nat).Perm (List.range 20)) (Rs' := [wX, wO, wA, wB, wL, wH, vO, vA, vB, vL, wT, wK, wP, wQ, wZ, wV, wN, wU, wD, [(o, .inl (cJ, 1, .inr (.inl g)))]]) rfl rfl ?_
    refine q_istore C dL_law_163 165 rfl [(5, .int (nI 1)), (4, .int (nI i)), (3, .ref o), (2, .ref y), (1, .ref x), (0, .ref b)] (by decide) rfl ?_
    refine q_aload_n C dL_law_165 166 3 rfl rfl ?_
    refine q_aload_n C dL_law_166 167 5 rfl rfl ?_
    refine q_iload C dL_law_167 169 1 rfl rfl ?_
    refine q_iconst (v := nI 1) C dL_law_169 170 rfl (by decide) ?_
    refine q_iadd (v := nI (i + 1)) C dL_law_170 171 rfl (q_nadd (by omega)) ?_
    refine q_sld (v := v) C hXb hbl hbA (i + 1) rfl (by omega) (by omega) hxv dL_law_171 172 rfl ?_
    refine q_callV (k := 12) (ci := 6) (n := 1) (rest := []) (Rr := [wX, wO, wA, wB, wL, wH, vO, vA, vB, vL, wT, wK, wQ, wZ, wV, wN, wU, wD, [(o, .inl (cJ, 1, .inr (.inl g)))]]) C rfl (k_isP_recv rP) rfl (c_X7_set_a l hZ hI y mS mZ mV mN mU mD fd hh wP rP v (k_nb12 hv)) gL_law_X7_set rfl rfl rfl (by decide +kernel) B.1 ⟨Nat.le_of_ble_eq_true rfl, Nat.le_of_ble_eq_true rfl⟩ rfl rfl (Nat.le_of_ble_eq_true rfl) dL_law_172 ⟨(by show ((80 + i) + 1) + 0 ≤ 601024; omega), (by show ((6951 + 2 * i) + 6) + 0 ≤ 7293034; omega)⟩ [12] [0, 1, 2, 3, 4, 5, 6, 7, 8, 9, 10, 11, 13, 14, 15, 16, 17, 18, 19] (by decide : ([12] ++ ([0, 1, 2, 3, 4, 5, 6, 7, 8, 9, 10, 11, 13, 14, 15, 16, 17, 18, 19] : List Nat)).Perm (List.range 20)) rfl rfl 175 rfl (fun v0 R0 t0 ht0 hp0 => ?_)
    obtain ⟨rfl, w_172, hw_172, rfl⟩ := hp0
    refine q_eqs (st' := [.int (nI 0)]) rfl ?_
    refine q_reord [1, 2, 3, 4, 5, 6, 7, 8, 9, 10, 11, 12, 0, 13, 14, 15, 16, 17, 18, 19] (by decide : ([1, 2, 3, 4, 5, 6, 7, 8, 9, 10, 11, 12, 0, 13, 14, 15, 16, 17, 18, 19] : List Nat).Perm (List.range 20)) (Rs' := [wX, wO, wA, wB, wL, wH, vO, vA, vB, vL, wT, wK, w_172, wQ, wZ, wV, wN, wU, wD, [(o, .inl (cJ, 1, .inr (.inl g)))]]) rfl rfl ?_
    refine q_istore C dL_law_175 177 rfl [(6, .int (nI 0)), (5, .int (nI 1)), (4, .int (nI i)), (3, .ref o), (2, .ref y), (1, .ref x), (0, .ref b)] (by decide) rfl ?_
    refine q_aload_n C dL_law_177 178 4 rfl rfl ?_
    refine q_callV (k := 12) (ci := 6) (n := 0) (rest := []) (Rr := [wX, wO, wA, wB, wL, wH, vO, vA, vB, vL, wT, wK, wQ, wZ, wV, wN, wU, wD, [(o, .inl (cJ, 1, .inr (.inl g)))]]) C rfl (k_isP_recv hw_172) rfl (c_X7_thrown l hZ hI y mS mZ mV mN mU mD (upd (upd fd 0 (nI 0)) 0 (nI 1)) hh w_172 hw_172) gL_law_X7_thrown rfl rfl rfl (by decide +kernel) B.1 ⟨Nat.le_of_ble_eq_true rfl, Nat.le_of_ble_eq_true rfl⟩ rfl rfl (Nat.le_of_ble_eq_true rfl) dL_law_178 ⟨(by show ((80 + i) + 1) + 0 ≤ 601024; omega), (by show ((6951 + 2 * i) + 6) + 0 ≤ 7293034; omega)⟩ [12] [0, 1, 2, 3, 4, 5, 6, 7, 8, 9, 10, 11, 13, 14, 15, 16, 17, 18, 19] (by decide : ([12] ++ ([0, 1, 2, 3, 4, 5, 6, 7, 8, 9, 10, 11, 13, 14, 15, 16, 17, 18, 19] : List Nat)).Perm (List.range 20)) rfl rfl 181 rfl (fun v0 R0 t0 ht0 hp0 => ?_)
    obtain ⟨rfl, rfl⟩ := hp0
    refine q_eqs (st' := [.int ((upd (upd fd 0 (nI 0)) 0 (nI 1)) 0)]) rfl ?_
    refine q_reord [1, 2, 3, 4, 5, 6, 7, 8, 9, 10, 11, 12, 0, 13, 14, 15, 16, 17, 18, 19] (by decide : ([1, 2, 3, 4, 5, 6, 7, 8, 9, 10, 11, 12, 0, 13, 14, 15, 16, 17, 18, 19] : List Nat).Perm (List.range 20)) (Rs' := [wX, wO, wA, wB, wL, wH, vO, vA, vB, vL, wT, wK, w_172, wQ, wZ, wV, wN, wU, wD, [(o, .inl (cJ, 1, .inr (.inl g)))]]) rfl rfl ?_
    refine q_eqs (st' := [.int (nI 1)]) (by rw [pk_us]) ?_
    refine q_iload C dL_law_181 183 1 rfl rfl ?_
    refine q_icmp_eq C dL_law_183 186 188 rfl (by decide) (nI_eq (by omega) (by omega)) (fun h183 => ?_) (fun h183 => False.elim (by first | omega | simp_all))
    refine q_iload C dL_law_188 190 1 rfl rfl ?_
    refine q_if_ne C dL_law_190 193 205 rfl (by decide) (q_eq0 (by omega)) (fun h190 => ?_) (fun h190 => False.elim (by first | omega | simp_all))
    refine q_goto C dL_law_205 1304 (by decide) ?_
    refine q_sub (L' := [(4, .int (nI i)), (3, .ref o), (2, .ref y), (1, .ref x), (0, .ref b)]) [2, 3, 4, 5, 6] rfl ?_
    refine q_widen (k := 80 + i + 1) (n := 6951 + 2 * i + 6) (by omega) (by omega) ?_
    exact kk _ ⟨(bx, at0, ln, sc), sv, hsn, (sb, sa, sl, ss), (nb, na, nl, ns), tx, upd (upd fd 0 (nI 0)) 0 (nI 1), g, _, _, ⟨_, _, _, _, _, _, _, _, _, _, _, _, _, _, _, _, _, _, _, _, _, _, _, _, _, rX, ⟨rO, rA, rB, rL⟩, rH, ⟨gO, gA, gB, gL⟩, rT, rK, rfl⟩, ⟨_, _, _, _, _, _, _, (zb, za, zl, zs), _, _, _, _, _, _, _, _, _, hw_172, rQ, rZ, rV, rN, rU, rD, rfl⟩, hIv, hIs, (by rw [pk_un (by decide), pk_un (by decide)]; exact q4), (by rw [pk_un (by decide), pk_un (by decide)]; exact q8), (k_Sn_eq hsn6 (by rw [pk_un (by decide), pk_un (by decide)])), hl6, rfl⟩
    

set_option maxHeartbeats 1000000 in
set_option maxRecDepth 100000 in
theorem law_c1 {p9 : Program} {l : Launch} {e9 : Env} {R : Room} {s9 : State} {m9 : MethodId} {args : Array Value} {below : List Frame} {meth : Method} {c9 : Code} {Q : State → Prop} {D : va_G} {tys : List (ClassId × FieldType)} {A : Nat → Prop} {Z : (Nat → Prop) → State → Heap → Prop} {b LL : Nat} {xs : Nat → Int32} {x y o i : Nat} {Rs : List va_W} (C : q_C p9 s9 m9 args c9 cL_law 9 wsL_law RL D tys Z A) (hZ : q_St Z) {cI cG cJ : ClassId} (hI : tys[0]? = some (cI, .int)) (hG : tys[1]? = some (cG, .object "SortCases$State")) (hJ : tys[2]? = some (cJ, .long)) (hN : q_Ns Z) {ad aw av : Nat → Nat} {tK : Nat} (hKs : q_Ks Z ad aw av tK) {tL tH : Nat} (hVs : q_Vs Z tL tH) (hXs : q_Xs Z) (hlT : l.stackTraces = false) (hXb : va_X b LL xs s9 s9.heap) (hbl : b < s9.heap.size) (hbA : ¬ A b) (hR : R = ({ frames := 12, cells := 601024, slots := 7293034, locals := 454 } : Room)) (hi : i + 3 ≤ LL) (hL : LL ≤ 1536) (hRs : law_I cG cI cJ x y o Rs) (kk : ∀ Rs', law_I cG cI cJ x y o Rs' → q_V p9 l e9 R s9 m9 args below meth c9 D A 9 Q (80 + i + 1) (6951 + 2 * i + 6) 1304 [(4, .int (nI i)), (3, .ref o), (2, .ref y), (1, .ref x), (0, .ref b)] [] Rs') : q_V p9 l e9 R s9 m9 args below meth c9 D A 9 Q (80 + i) (6951 + 2 * i) 208 [(4, .int (nI i)), (3, .ref o), (2, .ref y), (1, .ref x), (0, .ref b)] [] Rs := by
  have hcI := hI
  have hcG := hG
  have B : R = ({ frames := 12, cells := 601024, slots := 7293034, locals := 454 } : Room) ∧ True := ⟨hR, trivial⟩
  have hts := C.2.2.2.2.1
  obtain ⟨⟨bx, at0, ln, sc⟩, sv, hsn, ⟨sb, sa, sl, ss⟩, ⟨nb, na, nl, ns⟩, tx, fd, g, R1, R2, ⟨aO, aY, aN, aT, aK, aB, aL, aS, naB, naL, naS, kb, ka, wX, wO, wA, wB, wL, wH, vO, vA, vB, vL, wT, wK, rX, ⟨rO, rA, rB, rL⟩, rH, ⟨gO, gA, gB, gL⟩, rT, rK, rfl⟩, ⟨mS, mZ, mV, mN, mU, mD, hh, ⟨zb, za, zl, zs⟩, dx, ps, wP, wQ, wZ, wV, wN, wU, wD, rP, rQ, rZ, rV, rN, rU, rD, rfl⟩, hIv, hIs, q4, q8, hsn6, hl6, rfl⟩ := hRs
  have rO : k_isO cI aO aB aL aS sc wO := rO
  have rA : k_isA cI aS sc wA := rA
  have rB : k_isB cI aB bx at0 wB := rB
  have rL : k_isL cI aL ln wL := rL
  have gO : k_isO cI aN naB naL naS ss vO := gO
  have gA : k_isA cI naS ss vA := gA
  have gB : k_isB cI naB sb sa vB := gB
  have gL : k_isL cI naL sl vL := gL
  have rQ : k_isQ cI mS bx at0 ln sc wQ := rQ
  have rZ : k_isQ cI mZ zb za zl zs wZ := rZ
  have rN : k_isQ cI mN nb na nl ns wN := rN
  have hll : ln.length ≤ 40 := rL.1.1
  have htl : tx.length ≤ 60 := rT.1.1
  obtain ⟨v, hxv⟩ : ∃ v, xs (i + 1) = v := ⟨_, rfl⟩
  obtain ⟨v2, hxv2⟩ : ∃ v2, xs (i + 2) = v2 := ⟨_, rfl⟩
  refine q_eqR (Rs' := [wX, wO, wA, wB, wL, wH, vO, vA, vB, vL, wT, wK, wP, wQ, wZ, wV, wN, wU, wD, [(o, .inl (cJ, 1, .inr (.inl g)))]]) rfl ?_
  by_cases hv : nI 1 ≤ v ∧ v ≤ nI 99
  · obtain ⟨c, hc, rfl⟩ := k_exr hv (by decide) (by decide)
    refine q_aload_n C dL_law_208 209 3 rfl rfl ?_
    refine q_aload_n C dL_law_209 210 4 rfl rfl ?_
    refine q_iload C dL_law_210 212 0 rfl rfl ?_
    refine q_iconst (v := nI 1) C dL_law_212 213 rfl (by decide) ?_
    refine q_iadd (v := nI (i + 1)) C dL_law_213 214 rfl (q_nadd (by omega)) ?_
    refine q_sld (v := nI c) C hXb hbl hbA (i + 1) rfl (by omega) (by omega) hxv dL_law_214 215 rfl ?_
    refine q_aload_n C dL_law_215 216 1 rfl rfl ?_
    refine q_reord [0, 1, 2, 3, 4, 5, 19, 6, 7, 8, 9, 10, 11, 12, 13, 14, 15, 16, 17, 18] (by decide : ([0, 1, 2, 3, 4, 5, 19, 6, 7, 8, 9, 10, 11, 12, 13, 14, 15, 16, 17, 18] : List Nat).Perm (List.range 20)) (Rs' := [wX, wO, wA, wB, wL, wH, [(o, .inl (cJ, 1, .inr (.inl g)))], vO, vA, vB, vL, wT, wK, wP, wQ, wZ, wV, wN, wU, wD]) rfl rfl ?_
    refine q_resp (Rs' := [[wX, wO, wA, wB, wL, wH].flatten, [(o, .inl (cJ, 1, .inr (.inl g)))], vO, vA, vB, vL, wT, wK, wP, wQ, wZ, wV, wN, wU, wD]) (by simp) ?_
    refine q_callSW (n := 3) (As := [.ref x, .int (nI c), .ref o]) (rest := []) (Rr := [vO, vA, vB, vL, wT, wK, wP, wQ, wZ, wV, wN, wU, wD]) C (c_L_idle_ok l hZ hJ x o (nI c) (r := nI (k_cnt (k_bm bx at0 (-1)) c)) (q_hd (k_isX_recv rX)) (q_Cflat (List.append_nil _).symm (c_X6_idle_b l hZ hI hG x aO aY aN hsn aT aK wX rX aB aL aS sc wO rO wA rA bx at0 wB rB ln wL rL sv wH rH c (by omega) (by omega))) (Nat.le_of_ble_eq_true rfl) (Nat.le_of_ble_eq_true rfl) rfl rfl (fun _ _ _ h => h.1) g) gL_law_L_idle rfl rfl rfl (by decide +kernel) B.1 ⟨Nat.le_of_ble_eq_true rfl, Nat.le_of_ble_eq_true rfl⟩ rfl rfl (Nat.le_of_ble_eq_true rfl) dL_law_216 ⟨(by show (80 + i) + 0 ≤ 601024; omega), (by show (6951 + 2 * i) + 0 ≤ 7293034; omega)⟩ [0, 1] [2, 3, 4, 5, 6, 7, 8, 9, 10, 11, 12, 13, 14] (by decide : ([0, 1] ++ ([2, 3, 4, 5, 6, 7, 8, 9, 10, 11, 12, 13, 14] : List Nat)).Perm (List.range 15)) rfl rfl 219 rfl (fun v0 R0 t0 ht0 hp0 => ?_)
    obtain ⟨rfl, R1, t1, ⟨-, wO_216, hwO_216, wA_216, hwA_216, wB_216, hwB_216, wH_216, hwH_216, rfl⟩, rfl⟩ := hp0
    refine q_eqs (st' := [.int (nI 0)]) rfl ?_
    refine q_resp (Rs' := [wX, wO_216, wA_216, wB_216, wL, wH_216, [(o, .inl (cJ, 1, .inr (.inl (va_up g 0 (nI (k_cnt (k_bm bx at0 (-1)) c)).toInt64))))], vO, vA, vB, vL, wT, wK, wP, wQ, wZ, wV, wN, wU, wD]) (by simp) ?_
    refine q_reord [0, 1, 2, 3, 4, 5, 7, 8, 9, 10, 11, 12, 13, 14, 15, 16, 17, 18, 19, 6] (by decide : ([0, 1, 2, 3, 4, 5, 7, 8, 9, 10, 11, 12, 13, 14, 15, 16, 17, 18, 19, 6] : List Nat).Perm (List.range 20)) (Rs' := [wX, wO_216, wA_216, wB_216, wL, wH_216, vO, vA, vB, vL, wT, wK, wP, wQ, wZ, wV, wN, wU, wD, [(o, .inl (cJ, 1, .inr (.inl (va_up g 0 (nI (k_cnt (k_bm bx at0 (-1)) c)).toInt64))))]]) rfl rfl ?_
    refine q_istore C dL_law_219 221 rfl [(5, .int (nI 0)), (4, .int (nI i)), (3, .ref o), (2, .ref y), (1, .ref x), (0, .ref b)] (by decide) rfl ?_
    refine q_aload_n C dL_law_221 222 3 rfl rfl ?_
    refine q_aload_n C dL_law_222 223 5 rfl rfl ?_
    refine q_iload C dL_law_223 225 1 rfl rfl ?_
    refine q_iconst (v := nI 1) C dL_law_225 226 rfl (by decide) ?_
    refine q_iadd (v := nI (i + 1)) C dL_law_226 227 rfl (q_nadd (by omega)) ?_
    refine q_sld (v := nI c) C hXb hbl hbA (i + 1) rfl (by omega) (by omega) hxv dL_law_227 228 rfl ?_
    refine q_callV (k := 12) (ci := 6) (n := 1) (rest := []) (Rr := [wX, wO_216, wA_216, wB_216, wL, wH_216, vO, vA, vB, vL, wT, wK, wZ, wN, wU, wD, [(o, .inl (cJ, 1, .inr (.inl (va_up g 0 (nI (k_cnt (k_bm bx at0 (-1)) c)).toInt64))))]]) C rfl (k_isP_recv rP) rfl (c_X7_idle_b l hZ hI y mS mZ mV mN mU mD fd hh wP rP bx at0 ln sc wQ rQ sv wV rV c (by omega) (by omega) q4) gL_law_X7_idle rfl rfl rfl (by decide +kernel) B.1 ⟨Nat.le_of_ble_eq_true rfl, Nat.le_of_ble_eq_true rfl⟩ rfl rfl (Nat.le_of_ble_eq_true rfl) dL_law_228 ⟨(by show ((80 + i) + 0) + 0 ≤ 601024; omega), (by show ((6951 + 2 * i) + 0) + 0 ≤ 7293034; omega)⟩ [12, 13, 15] [0, 1, 2, 3, 4, 5, 6, 7, 8, 9, 10, 11, 14, 16, 17, 18, 19] (by decide : ([12, 13, 15] ++ ([0, 1, 2, 3, 4, 5, 6, 7, 8, 9, 10, 11, 14, 16, 17, 18, 19] : List Nat)).Perm (List.range 20)) rfl rfl 231 rfl (fun v0 R0 t0 ht0 hp0 => ?_)
    obtain ⟨rfl, wP_228, hwP_228, wQ_228, hwQ_228, wV_228, hwV_228, rfl⟩ := hp0
    refine q_eqs (st' := [.int (nI (k_cnt (k_bm bx at0 (-1)) c))]) rfl ?_
    refine q_reord [3, 4, 5, 6, 7, 8, 9, 10, 11, 12, 13, 14, 0, 1, 15, 2, 16, 17, 18, 19] (by decide : ([3, 4, 5, 6, 7, 8, 9, 10, 11, 12, 13, 14, 0, 1, 15, 2, 16, 17, 18, 19] : List Nat).Perm (List.range 20)) (Rs' := [wX, wO_216, wA_216, wB_216, wL, wH_216, vO, vA, vB, vL, wT, wK, wP_228, wQ_228, wZ, wV_228, wN, wU, wD, [(o, .inl (cJ, 1, .inr (.inl (va_up g 0 (nI (k_cnt (k_bm bx at0 (-1)) c)).toInt64))))]]) rfl rfl ?_
    refine q_istore C dL_law_231 233 rfl [(6, .int (nI (k_cnt (k_bm bx at0 (-1)) c))), (5, .int (nI 0)), (4, .int (nI i)), (3, .ref o), (2, .ref y), (1, .ref x), (0, .ref b)] (by decide) rfl ?_
    refine q_aload_n C dL_law_233 234 4 rfl rfl ?_
    refine q_callV (k := 12) (ci := 6) (n := 0) (rest := []) (Rr := [wX, wO_216, wA_216, wB_216, wL, wH_216, vO, vA, vB, vL, wT, wK, wQ_228, wZ, wV_228, wN, wU, wD, [(o, .inl (cJ, 1, .inr (.inl (va_up g 0 (nI (k_cnt (k_bm bx at0 (-1)) c)).toInt64))))]]) C rfl (k_isP_recv hwP_228) rfl (c_X7_thrown l hZ hI y mS mZ mV mN mU mD (upd (upd fd 0 (nI 0)) 4 (nI (k_sav sv (bx, at0, ln, sc)).length)) hh wP_228 hwP_228) gL_law_X7_thrown rfl rfl rfl (by decide +kernel) B.1 ⟨Nat.le_of_ble_eq_true rfl, Nat.le_of_ble_eq_true rfl⟩ rfl rfl (Nat.le_of_ble_eq_true rfl) dL_law_234 ⟨(by show ((80 + i) + 0) + 0 ≤ 601024; omega), (by show ((6951 + 2 * i) + 0) + 0 ≤ 7293034; omega)⟩ [12] [0, 1, 2, 3, 4, 5, 6, 7, 8, 9, 10, 11, 13, 14, 15, 16, 17, 18, 19] (by decide : ([12] ++ ([0, 1, 2, 3, 4, 5, 6, 7, 8, 9, 10, 11, 13, 14, 15, 16, 17, 18, 19] : List Nat)).Perm (List.range 20)) rfl rfl 237 rfl (fun v0 R0 t0 ht0 hp0 => ?_)
    obtain ⟨rfl, rfl⟩ := hp0
    refine q_eqs (st' := [.int ((upd (upd fd 0 (nI 0)) 4 (nI (k_sav sv (bx, at0, ln, sc)).length)) 0)]) rfl ?_
    refine q_reord [1, 2, 3, 4, 5, 6, 7, 8, 9, 10, 11, 12, 0, 13, 14, 15, 16, 17, 18, 19] (by decide : ([1, 2, 3, 4, 5, 6, 7, 8, 9, 10, 11, 12, 0, 13, 14, 15, 16, 17, 18, 19] : List Nat).Perm (List.range 20)) (Rs' := [wX, wO_216, wA_216, wB_216, wL, wH_216, vO, vA, vB, vL, wT, wK, wP_228, wQ_228, wZ, wV_228, wN, wU, wD, [(o, .inl (cJ, 1, .inr (.inl (va_up g 0 (nI (k_cnt (k_bm bx at0 (-1)) c)).toInt64))))]]) rfl rfl ?_
    refine q_eqs (st' := [.int (nI 0)]) (by rw [pk_un (by decide), pk_us]) ?_
    refine q_iload C dL_law_237 239 1 rfl rfl ?_
    refine q_icmp_eq C dL_law_239 242 244 rfl (by decide) (nI_eq (by omega) (by omega)) (fun h239 => ?_) (fun h239 => False.elim (by first | omega | simp_all))
    refine q_iload C dL_law_244 246 1 rfl rfl ?_
    refine q_if_ne C dL_law_246 249 261 rfl (by decide) (q_eq0 (by omega)) (fun h246 => False.elim (by first | omega | simp_all)) (fun h246 => ?_)
    refine q_aload_n C dL_law_249 250 3 rfl rfl ?_
    refine q_iconst (v := nI 0) C dL_law_250 251 rfl (by decide) ?_
    refine q_lald (k := 19) (j := 0) (v := (nI (k_cnt (k_bm bx at0 (-1)) c)).toInt64) C dL_law_251 252 rfl rfl rfl hJ 0 rfl (by decide) (by decide) k_up_s ?_
    refine q_iload C dL_law_252 254 0 rfl rfl ?_
    refine q_i2l (v := ((nI (k_cnt (k_bm bx at0 (-1)) c)) : Int32).toInt64) C dL_law_254 255 rfl rfl ?_
    refine q_lcmp C dL_law_255 256 rfl ?_
    refine q_if_eq C dL_law_256 259 261 rfl (by decide) Iff.rfl (fun h256 => ?_) (fun h256 => False.elim (h256 (lg_self _)))
    refine q_goto C dL_law_261 1304 (by decide) ?_
    refine q_sub (L' := [(4, .int (nI i)), (3, .ref o), (2, .ref y), (1, .ref x), (0, .ref b)]) [2, 3, 4, 5, 6] rfl ?_
    refine q_widen (k := 80 + i + 1) (n := 6951 + 2 * i + 6) (by omega) (by omega) ?_
    exact kk _ ⟨k_rest (bx, at0, ln, sc) c, (k_sav sv (bx, at0, ln, sc)), hsn, (sb, sa, sl, ss), (nb, na, nl, ns), tx, upd (upd fd 0 (nI 0)) 4 (nI (k_sav sv (bx, at0, ln, sc)).length), va_up g 0 (nI (k_cnt (k_bm bx at0 (-1)) c)).toInt64, _, _, ⟨_, _, _, _, _, _, _, _, _, _, _, _, _, _, _, _, _, _, _, _, _, _, _, _, _, rX, ⟨hwO_216, hwA_216, hwB_216, rL⟩, hwH_216, ⟨gO, gA, gB, gL⟩, rT, rK, rfl⟩, ⟨_, _, _, _, _, _, _, (zb, za, zl, zs), _, _, _, _, _, _, _, _, _, hwP_228, hwQ_228, rZ, hwV_228, rN, rU, rD, rfl⟩, (k_Iv_rest hIv), (k_Iv_sav hIs hIv), (by rw [pk_us]), (by rw [pk_un (by decide), pk_un (by decide)]; exact q8), (k_Sn_eq hsn6 (by rw [pk_un (by decide), pk_un (by decide)])), (k_sav_6' hl6), rfl⟩
    
  · refine q_aload_n C dL_law_208 209 3 rfl rfl ?_
    refine q_aload_n C dL_law_209 210 4 rfl rfl ?_
    refine q_iload C dL_law_210 212 0 rfl rfl ?_
    refine q_iconst (v := nI 1) C dL_law_212 213 rfl (by decide) ?_
    refine q_iadd (v := nI (i + 1)) C dL_law_213 214 rfl (q_nadd (by omega)) ?_
    refine q_sld (v := v) C hXb hbl hbA (i + 1) rfl (by omega) (by omega) hxv dL_law_214 215 rfl ?_
    refine q_aload_n C dL_law_215 216 1 rfl rfl ?_
    refine q_reord [0, 19, 1, 2, 3, 4, 5, 6, 7, 8, 9, 10, 11, 12, 13, 14, 15, 16, 17, 18] (by decide : ([0, 19, 1, 2, 3, 4, 5, 6, 7, 8, 9, 10, 11, 12, 13, 14, 15, 16, 17, 18] : List Nat).Perm (List.range 20)) (Rs' := [wX, [(o, .inl (cJ, 1, .inr (.inl g)))], wO, wA, wB, wL, wH, vO, vA, vB, vL, wT, wK, wP, wQ, wZ, wV, wN, wU, wD]) rfl rfl ?_
    refine q_resp (Rs' := [[wX].flatten, [(o, .inl (cJ, 1, .inr (.inl g)))], wO, wA, wB, wL, wH, vO, vA, vB, vL, wT, wK, wP, wQ, wZ, wV, wN, wU, wD]) (by simp) ?_
    refine q_callSW (n := 3) (As := [.ref x, .int v, .ref o]) (rest := []) (Rr := [wO, wA, wB, wL, wH, vO, vA, vB, vL, wT, wK, wP, wQ, wZ, wV, wN, wU, wD]) C (c_L_idle_x1 l hZ hJ hXs x o v (q_hd (k_isX_recv rX)) (q_Xflat (List.append_nil _).symm (c_X6_idle_a l hZ hI hG hXs hlT x aO aY aN hsn aT aK wX rX v hv)) (Nat.le_of_ble_eq_true rfl) (Nat.le_of_ble_eq_true rfl) rfl rfl g) gL_law_L_idle rfl rfl rfl (by decide +kernel) B.1 ⟨Nat.le_of_ble_eq_true rfl, Nat.le_of_ble_eq_true rfl⟩ rfl rfl (Nat.le_of_ble_eq_true rfl) dL_law_216 ⟨(by show (80 + i) + 1 ≤ 601024; omega), (by show (6951 + 2 * i) + 6 ≤ 7293034; omega)⟩ [0, 1] [2, 3, 4, 5, 6, 7, 8, 9, 10, 11, 12, 13, 14, 15, 16, 17, 18, 19] (by decide : ([0, 1] ++ ([2, 3, 4, 5, 6, 7, 8, 9, 10, 11, 12, 13, 14, 15, 16, 17, 18, 19] : List Nat)).Perm (List.range 20)) rfl rfl 219 rfl (fun v0 R0 t0 ht0 hp0 => ?_)
    obtain ⟨rfl, rfl⟩ := hp0
    refine q_eqs (st' := [.int (nI 1)]) rfl ?_
    refine q_resp (Rs' := [wX, [(o, .inl (cJ, 1, .inr (.inl g)))], wO, wA, wB, wL, wH, vO, vA, vB, vL, wT, wK, wP, wQ, wZ, wV, wN, wU, wD]) (by simp) ?_
    refine q_reord [0, 2, 3, 4, 5, 6, 7, 8, 9, 10, 11, 12, 13, 14, 15, 16, 17, 18, 19, 1] (by decide : ([0, 2, 3, 4, 5, 6, 7, 8, 9, 10, 11, 12, 13, 14, 15, 16, 17, 18, 19, 1] : List Nat).Perm (List.range 20)) (Rs' := [wX, wO, wA, wB, wL, wH, vO, vA, vB, vL, wT, wK, wP, wQ, wZ, wV, wN, wU, wD, [(o, .inl (cJ, 1, .inr (.inl g)))]]) rfl rfl ?_
    refine q_istore C dL_law_219 221 rfl [(5, .int (nI 1)), (4, .int (nI i)), (3, .ref o), (2, .ref y), (1, .ref x), (0, .ref b)] (by decide) rfl ?_
    refine q_aload_n C dL_law_221 222 3 rfl rfl ?_
    refine q_aload_n C dL_law_222 223 5 rfl rfl ?_
    refine q_iload C dL_law_223 225 1 rfl rfl ?_
    refine q_iconst (v := nI 1) C dL_law_225 226 rfl (by decide) ?_
    refine q_iadd (v := nI (i + 1)) C dL_law_226 227 rfl (q_nadd (by omega)) ?_
    refine q_sld (v := v) C hXb hbl hbA (i + 1) rfl (by omega) (by omega) hxv dL_law_227 228 rfl ?_
    refine q_callV (k := 12) (ci := 6) (n := 1) (rest := []) (Rr := [wX, wO, wA, wB, wL, wH, vO, vA, vB, vL, wT, wK, wQ, wZ, wV, wN, wU, wD, [(o, .inl (cJ, 1, .inr (.inl g)))]]) C rfl (k_isP_recv rP) rfl (c_X7_idle_a l hZ hI y mS mZ mV mN mU mD fd hh wP rP v hv) gL_law_X7_idle rfl rfl rfl (by decide +kernel) B.1 ⟨Nat.le_of_ble_eq_true rfl, Nat.le_of_ble_eq_true rfl⟩ rfl rfl (Nat.le_of_ble_eq_true rfl) dL_law_228 ⟨(by show ((80 + i) + 1) + 0 ≤ 601024; omega), (by show ((6951 + 2 * i) + 6) + 0 ≤ 7293034; omega)⟩ [12] [0, 1, 2, 3, 4, 5, 6, 7, 8, 9, 10, 11, 13, 14, 15, 16, 17, 18, 19] (by decide : ([12] ++ ([0, 1, 2, 3, 4, 5, 6, 7, 8, 9, 10, 11, 13, 14, 15, 16, 17, 18, 19] : List Nat)).Perm (List.range 20)) rfl rfl 231 rfl (fun v0 R0 t0 ht0 hp0 => ?_)
    obtain ⟨rfl, w_228, hw_228, rfl⟩ := hp0
    refine q_eqs (st' := [.int (nI 0)]) rfl ?_
    refine q_reord [1, 2, 3, 4, 5, 6, 7, 8, 9, 10, 11, 12, 0, 13, 14, 15, 16, 17, 18, 19] (by decide : ([1, 2, 3, 4, 5, 6, 7, 8, 9, 10, 11, 12, 0, 13, 14, 15, 16, 17, 18, 19] : List Nat).Perm (List.range 20)) (Rs' := [wX, wO, wA, wB, wL, wH, vO, vA, vB, vL, wT, wK, w_228, wQ, wZ, wV, wN, wU, wD, [(o, .inl (cJ, 1, .inr (.inl g)))]]) rfl rfl ?_
    refine q_istore C dL_law_231 233 rfl [(6, .int (nI 0)), (5, .int (nI 1)), (4, .int (nI i)), (3, .ref o), (2, .ref y), (1, .ref x), (0, .ref b)] (by decide) rfl ?_
    refine q_aload_n C dL_law_233 234 4 rfl rfl ?_
    refine q_callV (k := 12) (ci := 6) (n := 0) (rest := []) (Rr := [wX, wO, wA, wB, wL, wH, vO, vA, vB, vL, wT, wK, wQ, wZ, wV, wN, wU, wD, [(o, .inl (cJ, 1, .inr (.inl g)))]]) C rfl (k_isP_recv hw_228) rfl (c_X7_thrown l hZ hI y mS mZ mV mN mU mD (upd (upd fd 0 (nI 0)) 0 (nI 1)) hh w_228 hw_228) gL_law_X7_thrown rfl rfl rfl (by decide +kernel) B.1 ⟨Nat.le_of_ble_eq_true rfl, Nat.le_of_ble_eq_true rfl⟩ rfl rfl (Nat.le_of_ble_eq_true rfl) dL_law_234 ⟨(by show ((80 + i) + 1) + 0 ≤ 601024; omega), (by show ((6951 + 2 * i) + 6) + 0 ≤ 7293034; omega)⟩ [12] [0, 1, 2, 3, 4, 5, 6, 7, 8, 9, 10, 11, 13, 14, 15, 16, 17, 18, 19] (by decide : ([12] ++ ([0, 1, 2, 3, 4, 5, 6, 7, 8, 9, 10, 11, 13, 14, 15, 16, 17, 18, 19] : List Nat)).Perm (List.range 20)) rfl rfl 237 rfl (fun v0 R0 t0 ht0 hp0 => ?_)
    obtain ⟨rfl, rfl⟩ := hp0
    refine q_eqs (st' := [.int ((upd (upd fd 0 (nI 0)) 0 (nI 1)) 0)]) rfl ?_
    refine q_reord [1, 2, 3, 4, 5, 6, 7, 8, 9, 10, 11, 12, 0, 13, 14, 15, 16, 17, 18, 19] (by decide : ([1, 2, 3, 4, 5, 6, 7, 8, 9, 10, 11, 12, 0, 13, 14, 15, 16, 17, 18, 19] : List Nat).Perm (List.range 20)) (Rs' := [wX, wO, wA, wB, wL, wH, vO, vA, vB, vL, wT, wK, w_228, wQ, wZ, wV, wN, wU, wD, [(o, .inl (cJ, 1, .inr (.inl g)))]]) rfl rfl ?_
    refine q_eqs (st' := [.int (nI 1)]) (by rw [pk_us]) ?_
    refine q_iload C dL_law_237 239 1 rfl rfl ?_
    refine q_icmp_eq C dL_law_239 242 244 rfl (by decide) (nI_eq (by omega) (by omega)) (fun h239 => ?_) (fun h239 => False.elim (by first | omega | simp_all))
    refine q_iload C dL_law_244 246 1 rfl rfl ?_
    refine q_if_ne C dL_law_246 249 261 rfl (by decide) (q_eq0 (by omega)) (fun h246 => ?_) (fun h246 => False.elim (by first | omega | simp_all))
    refine q_goto C dL_law_261 1304 (by decide) ?_
    refine q_sub (L' := [(4, .int (nI i)), (3, .ref o), (2, .ref y), (1, .ref x), (0, .ref b)]) [2, 3, 4, 5, 6] rfl ?_
    refine q_widen (k := 80 + i + 1) (n := 6951 + 2 * i + 6) (by omega) (by omega) ?_
    exact kk _ ⟨(bx, at0, ln, sc), sv, hsn, (sb, sa, sl, ss), (nb, na, nl, ns), tx, upd (upd fd 0 (nI 0)) 0 (nI 1), g, _, _, ⟨_, _, _, _, _, _, _, _, _, _, _, _, _, _, _, _, _, _, _, _, _, _, _, _, _, rX, ⟨rO, rA, rB, rL⟩, rH, ⟨gO, gA, gB, gL⟩, rT, rK, rfl⟩, ⟨_, _, _, _, _, _, _, (zb, za, zl, zs), _, _, _, _, _, _, _, _, _, hw_228, rQ, rZ, rV, rN, rU, rD, rfl⟩, hIv, hIs, (by rw [pk_un (by decide), pk_un (by decide)]; exact q4), (by rw [pk_un (by decide), pk_un (by decide)]; exact q8), (k_Sn_eq hsn6 (by rw [pk_un (by decide), pk_un (by decide)])), hl6, rfl⟩
    

set_option maxHeartbeats 1000000 in
set_option maxRecDepth 100000 in
theorem law_c2 {p9 : Program} {l : Launch} {e9 : Env} {R : Room} {s9 : State} {m9 : MethodId} {args : Array Value} {below : List Frame} {meth : Method} {c9 : Code} {Q : State → Prop} {D : va_G} {tys : List (ClassId × FieldType)} {A : Nat → Prop} {Z : (Nat → Prop) → State → Heap → Prop} {b LL : Nat} {xs : Nat → Int32} {x y o i : Nat} {Rs : List va_W} (C : q_C p9 s9 m9 args c9 cL_law 9 wsL_law RL D tys Z A) (hZ : q_St Z) {cI cG cJ : ClassId} (hI : tys[0]? = some (cI, .int)) (hG : tys[1]? = some (cG, .object "SortCases$State")) (hJ : tys[2]? = some (cJ, .long)) (hN : q_Ns Z) {ad aw av : Nat → Nat} {tK : Nat} (hKs : q_Ks Z ad aw av tK) {tL tH : Nat} (hVs : q_Vs Z tL tH) (hXs : q_Xs Z) (hlT : l.stackTraces = false) (hXb : va_X b LL xs s9 s9.heap) (hbl : b < s9.heap.size) (hbA : ¬ A b) (hR : R = ({ frames := 12, cells := 601024, slots := 7293034, locals := 454 } : Room)) (hi : i + 3 ≤ LL) (hL : LL ≤ 1536) (hRs : law_I cG cI cJ x y o Rs) (kk : ∀ Rs', law_I cG cI cJ x y o Rs' → q_V p9 l e9 R s9 m9 args below meth c9 D A 9 Q (80 + i + 1) (6951 + 2 * i + 6) 1304 [(4, .int (nI i)), (3, .ref o), (2, .ref y), (1, .ref x), (0, .ref b)] [] Rs') : q_V p9 l e9 R s9 m9 args below meth c9 D A 9 Q (80 + i) (6951 + 2 * i) 264 [(4, .int (nI i)), (3, .ref o), (2, .ref y), (1, .ref x), (0, .ref b)] [] Rs := by
  have hcI := hI
  have hcG := hG
  have B : R = ({ frames := 12, cells := 601024, slots := 7293034, locals := 454 } : Room) ∧ True := ⟨hR, trivial⟩
  have hts := C.2.2.2.2.1
  obtain ⟨⟨bx, at0, ln, sc⟩, sv, hsn, ⟨sb, sa, sl, ss⟩, ⟨nb, na, nl, ns⟩, tx, fd, g, R1, R2, ⟨aO, aY, aN, aT, aK, aB, aL, aS, naB, naL, naS, kb, ka, wX, wO, wA, wB, wL, wH, vO, vA, vB, vL, wT, wK, rX, ⟨rO, rA, rB, rL⟩, rH, ⟨gO, gA, gB, gL⟩, rT, rK, rfl⟩, ⟨mS, mZ, mV, mN, mU, mD, hh, ⟨zb, za, zl, zs⟩, dx, ps, wP, wQ, wZ, wV, wN, wU, wD, rP, rQ, rZ, rV, rN, rU, rD, rfl⟩, hIv, hIs, q4, q8, hsn6, hl6, rfl⟩ := hRs
  have rO : k_isO cI aO aB aL aS sc wO := rO
  have rA : k_isA cI aS sc wA := rA
  have rB : k_isB cI aB bx at0 wB := rB
  have rL : k_isL cI aL ln wL := rL
  have gO : k_isO cI aN naB naL naS ss vO := gO
  have gA : k_isA cI naS ss vA := gA
  have gB : k_isB cI naB sb sa vB := gB
  have gL : k_isL cI naL sl vL := gL
  have rQ : k_isQ cI mS bx at0 ln sc wQ := rQ
  have rZ : k_isQ cI mZ zb za zl zs wZ := rZ
  have rN : k_isQ cI mN nb na nl ns wN := rN
  have hll : ln.length ≤ 40 := rL.1.1
  have htl : tx.length ≤ 60 := rT.1.1
  obtain ⟨v, hxv⟩ : ∃ v, xs (i + 1) = v := ⟨_, rfl⟩
  obtain ⟨v2, hxv2⟩ : ∃ v2, xs (i + 2) = v2 := ⟨_, rfl⟩
  refine q_eqR (Rs' := [wX, wO, wA, wB, wL, wH, vO, vA, vB, vL, wT, wK, wP, wQ, wZ, wV, wN, wU, wD, [(o, .inl (cJ, 1, .inr (.inl g)))]]) rfl ?_
  by_cases hv : k_has ln v = true
  · obtain ⟨c, hc, rfl⟩ := k_exk (by omega) hv
    by_cases hw : k_wc bx ln sc c = 0
    · refine q_aload_n C dL_law_264 265 3 rfl rfl ?_
      refine q_aload_n C dL_law_265 266 4 rfl rfl ?_
      refine q_iload C dL_law_266 268 0 rfl rfl ?_
      refine q_iconst (v := nI 1) C dL_law_268 269 rfl (by decide) ?_
      refine q_iadd (v := nI (i + 1)) C dL_law_269 270 rfl (q_nadd (by omega)) ?_
      refine q_sld (v := nI c) C hXb hbl hbA (i + 1) rfl (by omega) (by omega) hxv dL_law_270 271 rfl ?_
      refine q_aload_n C dL_law_271 272 1 rfl rfl ?_
      refine q_reord [0, 1, 2, 3, 4, 5, 19, 6, 7, 8, 9, 10, 11, 12, 13, 14, 15, 16, 17, 18] (by decide : ([0, 1, 2, 3, 4, 5, 19, 6, 7, 8, 9, 10, 11, 12, 13, 14, 15, 16, 17, 18] : List Nat).Perm (List.range 20)) (Rs' := [wX, wO, wA, wB, wL, wH, [(o, .inl (cJ, 1, .inr (.inl g)))], vO, vA, vB, vL, wT, wK, wP, wQ, wZ, wV, wN, wU, wD]) rfl rfl ?_
      refine q_resp (Rs' := [[wX, wO, wA, wB, wL, wH].flatten, [(o, .inl (cJ, 1, .inr (.inl g)))], vO, vA, vB, vL, wT, wK, wP, wQ, wZ, wV, wN, wU, wD]) (by simp) ?_
      refine q_callSW (n := 3) (As := [.ref x, .int (nI c), .ref o]) (rest := []) (Rr := [vO, vA, vB, vL, wT, wK, wP, wQ, wZ, wV, wN, wU, wD]) C (c_L_fix_ok l hZ hJ x o (nI c) (r := nI (k_er (k_rep ln c (k_la ln c).2))) (q_hd (k_isX_recv rX)) (q_Cflat (List.append_nil _).symm (c_X6_fix_c l hZ hI hN hG x aO aY aN hsn aT aK wX rX aB aL aS sc wO rO wA rA bx at0 wB rB ln wL rL sv wH rH c (by omega) hv hw)) (Nat.le_of_ble_eq_true rfl) (Nat.le_of_ble_eq_true rfl) rfl rfl (fun _ _ _ h => h.1) g) gL_law_L_fix rfl rfl rfl (by decide +kernel) B.1 ⟨Nat.le_of_ble_eq_true rfl, Nat.le_of_ble_eq_true rfl⟩ rfl rfl (Nat.le_of_ble_eq_true rfl) dL_law_272 ⟨(by show (80 + i) + 0 ≤ 601024; omega), (by show (6951 + 2 * i) + 0 ≤ 7293034; omega)⟩ [0, 1] [2, 3, 4, 5, 6, 7, 8, 9, 10, 11, 12, 13, 14] (by decide : ([0, 1] ++ ([2, 3, 4, 5, 6, 7, 8, 9, 10, 11, 12, 13, 14] : List Nat)).Perm (List.range 15)) rfl rfl 275 rfl (fun v0 R0 t0 ht0 hp0 => ?_)
      obtain ⟨rfl, R1, t1, ⟨-, wO_272, hwO_272, wA_272, hwA_272, wB_272, hwB_272, wL_272, hwL_272, wH_272, hwH_272, rfl⟩, rfl⟩ := hp0
      refine q_eqs (st' := [.int (nI 0)]) rfl ?_
      refine q_resp (Rs' := [wX, wO_272, wA_272, wB_272, wL_272, wH_272, [(o, .inl (cJ, 1, .inr (.inl (va_up g 0 (nI (k_er (k_rep ln c (k_la ln c).2))).toInt64))))], vO, vA, vB, vL, wT, wK, wP, wQ, wZ, wV, wN, wU, wD]) (by simp) ?_
      refine q_reord [0, 1, 2, 3, 4, 5, 7, 8, 9, 10, 11, 12, 13, 14, 15, 16, 17, 18, 19, 6] (by decide : ([0, 1, 2, 3, 4, 5, 7, 8, 9, 10, 11, 12, 13, 14, 15, 16, 17, 18, 19, 6] : List Nat).Perm (List.range 20)) (Rs' := [wX, wO_272, wA_272, wB_272, wL_272, wH_272, vO, vA, vB, vL, wT, wK, wP, wQ, wZ, wV, wN, wU, wD, [(o, .inl (cJ, 1, .inr (.inl (va_up g 0 (nI (k_er (k_rep ln c (k_la ln c).2))).toInt64))))]]) rfl rfl ?_
      refine q_istore C dL_law_275 277 rfl [(5, .int (nI 0)), (4, .int (nI i)), (3, .ref o), (2, .ref y), (1, .ref x), (0, .ref b)] (by decide) rfl ?_
      refine q_aload_n C dL_law_277 278 3 rfl rfl ?_
      refine q_aload_n C dL_law_278 279 5 rfl rfl ?_
      refine q_iload C dL_law_279 281 1 rfl rfl ?_
      refine q_iconst (v := nI 1) C dL_law_281 282 rfl (by decide) ?_
      refine q_iadd (v := nI (i + 1)) C dL_law_282 283 rfl (q_nadd (by omega)) ?_
      refine q_sld (v := nI c) C hXb hbl hbA (i + 1) rfl (by omega) (by omega) hxv dL_law_283 284 rfl ?_
      refine q_callV (k := 12) (ci := 6) (n := 1) (rest := []) (Rr := [wX, wO_272, wA_272, wB_272, wL_272, wH_272, vO, vA, vB, vL, wT, wK, wZ, wN, wU, wD, [(o, .inl (cJ, 1, .inr (.inl (va_up g 0 (nI (k_er (k_rep ln c (k_la ln c).2))).toInt64))))]]) C rfl (k_isP_recv rP) rfl (c_X7_fix_c l hZ hI y mS mZ mV mN mU mD fd hh wP rP bx at0 ln sc wQ rQ sv wV rV c (by omega) hv hw q4) gL_law_X7_fix rfl rfl rfl (by decide +kernel) B.1 ⟨Nat.le_of_ble_eq_true rfl, Nat.le_of_ble_eq_true rfl⟩ rfl rfl (Nat.le_of_ble_eq_true rfl) dL_law_284 ⟨(by show ((80 + i) + 0) + 0 ≤ 601024; omega), (by show ((6951 + 2 * i) + 0) + 0 ≤ 7293034; omega)⟩ [12, 13, 15] [0, 1, 2, 3, 4, 5, 6, 7, 8, 9, 10, 11, 14, 16, 17, 18, 19] (by decide : ([12, 13, 15] ++ ([0, 1, 2, 3, 4, 5, 6, 7, 8, 9, 10, 11, 14, 16, 17, 18, 19] : List Nat)).Perm (List.range 20)) rfl rfl 287 rfl (fun v0 R0 t0 ht0 hp0 => ?_)
      obtain ⟨rfl, wP_284, hwP_284, wQ_284, hwQ_284, wV_284, hwV_284, rfl⟩ := hp0
      refine q_eqs (st' := [.int (nI (k_er (k_rep ln c (k_la ln c).2)))]) rfl ?_
      refine q_reord [3, 4, 5, 6, 7, 8, 9, 10, 11, 12, 13, 14, 0, 1, 15, 2, 16, 17, 18, 19] (by decide : ([3, 4, 5, 6, 7, 8, 9, 10, 11, 12, 13, 14, 0, 1, 15, 2, 16, 17, 18, 19] : List Nat).Perm (List.range 20)) (Rs' := [wX, wO_272, wA_272, wB_272, wL_272, wH_272, vO, vA, vB, vL, wT, wK, wP_284, wQ_284, wZ, wV_284, wN, wU, wD, [(o, .inl (cJ, 1, .inr (.inl (va_up g 0 (nI (k_er (k_rep ln c (k_la ln c).2))).toInt64))))]]) rfl rfl ?_
      refine q_istore C dL_law_287 289 rfl [(6, .int (nI (k_er (k_rep ln c (k_la ln c).2)))), (5, .int (nI 0)), (4, .int (nI i)), (3, .ref o), (2, .ref y), (1, .ref x), (0, .ref b)] (by decide) rfl ?_
      refine q_aload_n C dL_law_289 290 4 rfl rfl ?_
      refine q_callV (k := 12) (ci := 6) (n := 0) (rest := []) (Rr := [wX, wO_272, wA_272, wB_272, wL_272, wH_272, vO, vA, vB, vL, wT, wK, wQ_284, wZ, wV_284, wN, wU, wD, [(o, .inl (cJ, 1, .inr (.inl (va_up g 0 (nI (k_er (k_rep ln c (k_la ln c).2))).toInt64))))]]) C rfl (k_isP_recv hwP_284) rfl (c_X7_thrown l hZ hI y mS mZ mV mN mU mD (upd (upd fd 0 (nI 0)) 4 (nI (k_sav sv (bx, at0, ln, sc)).length)) hh wP_284 hwP_284) gL_law_X7_thrown rfl rfl rfl (by decide +kernel) B.1 ⟨Nat.le_of_ble_eq_true rfl, Nat.le_of_ble_eq_true rfl⟩ rfl rfl (Nat.le_of_ble_eq_true rfl) dL_law_290 ⟨(by show ((80 + i) + 0) + 0 ≤ 601024; omega), (by show ((6951 + 2 * i) + 0) + 0 ≤ 7293034; omega)⟩ [12] [0, 1, 2, 3, 4, 5, 6, 7, 8, 9, 10, 11, 13, 14, 15, 16, 17, 18, 19] (by decide : ([12] ++ ([0, 1, 2, 3, 4, 5, 6, 7, 8, 9, 10, 11, 13, 14, 15, 16, 17, 18, 19] : List Nat)).Perm (List.range 20)) rfl rfl 293 rfl (fun v0 R0 t0 ht0 hp0 => ?_)
      obtain ⟨rfl, rfl⟩ := hp0
      refine q_eqs (st' := [.int ((upd (upd fd 0 (nI 0)) 4 (nI (k_sav sv (bx, at0, ln, sc)).length)) 0)]) rfl ?_
      refine q_reord [1, 2, 3, 4, 5, 6, 7, 8, 9, 10, 11, 12, 0, 13, 14, 15, 16, 17, 18, 19] (by decide : ([1, 2, 3, 4, 5, 6, 7, 8, 9, 10, 11, 12, 0, 13, 14, 15, 16, 17, 18, 19] : List Nat).Perm (List.range 20)) (Rs' := [wX, wO_272, wA_272, wB_272, wL_272, wH_272, vO, vA, vB, vL, wT, wK, wP_284, wQ_284, wZ, wV_284, wN, wU, wD, [(o, .inl (cJ, 1, .inr (.inl (va_up g 0 (nI (k_er (k_rep ln c (k_la ln c).2))).toInt64))))]]) rfl rfl ?_
      refine q_eqs (st' := [.int (nI 0)]) (by rw [pk_un (by decide), pk_us]) ?_
      refine q_iload C dL_law_293 295 1 rfl rfl ?_
      refine q_icmp_eq C dL_law_295 298 300 rfl (by decide) (nI_eq (by omega) (by omega)) (fun h295 => ?_) (fun h295 => False.elim (by first | omega | simp_all))
      refine q_iload C dL_law_300 302 1 rfl rfl ?_
      refine q_if_ne C dL_law_302 305 317 rfl (by decide) (q_eq0 (by omega)) (fun h302 => False.elim (by first | omega | simp_all)) (fun h302 => ?_)
      refine q_aload_n C dL_law_305 306 3 rfl rfl ?_
      refine q_iconst (v := nI 0) C dL_law_306 307 rfl (by decide) ?_
      refine q_lald (k := 19) (j := 0) (v := (nI (k_er (k_rep ln c (k_la ln c).2))).toInt64) C dL_law_307 308 rfl rfl rfl hJ 0 rfl (by decide) (by decide) k_up_s ?_
      refine q_iload C dL_law_308 310 0 rfl rfl ?_
      refine q_i2l (v := ((nI (k_er (k_rep ln c (k_la ln c).2))) : Int32).toInt64) C dL_law_310 311 rfl rfl ?_
      refine q_lcmp C dL_law_311 312 rfl ?_
      refine q_if_eq C dL_law_312 315 317 rfl (by decide) Iff.rfl (fun h312 => ?_) (fun h312 => False.elim (h312 (lg_self _)))
      refine q_goto C dL_law_317 1304 (by decide) ?_
      refine q_sub (L' := [(4, .int (nI i)), (3, .ref o), (2, .ref y), (1, .ref x), (0, .ref b)]) [2, 3, 4, 5, 6] rfl ?_
      refine q_widen (k := 80 + i + 1) (n := 6951 + 2 * i + 6) (by omega) (by omega) ?_
      exact kk _ ⟨k_cor (bx, at0, ln, sc) c, (k_sav sv (bx, at0, ln, sc)), hsn, (sb, sa, sl, ss), (nb, na, nl, ns), tx, upd (upd fd 0 (nI 0)) 4 (nI (k_sav sv (bx, at0, ln, sc)).length), va_up g 0 (nI (k_er (k_rep ln c (k_la ln c).2))).toInt64, _, _, ⟨_, _, _, _, _, _, _, _, _, _, _, _, _, _, _, _, _, _, _, _, _, _, _, _, _, rX, ⟨hwO_272, hwA_272, hwB_272, hwL_272⟩, hwH_272, ⟨gO, gA, gB, gL⟩, rT, rK, rfl⟩, ⟨_, _, _, _, _, _, _, (zb, za, zl, zs), _, _, _, _, _, _, _, _, _, hwP_284, hwQ_284, rZ, hwV_284, rN, rU, rD, rfl⟩, (k_Iv_cor hIv hc hw), (k_Iv_sav hIs hIv), (by rw [pk_us]), (by rw [pk_un (by decide), pk_un (by decide)]; exact q8), (k_Sn_eq hsn6 (by rw [pk_un (by decide), pk_un (by decide)])), (k_sav_6' hl6), rfl⟩
      
    · refine q_aload_n C dL_law_264 265 3 rfl rfl ?_
      refine q_aload_n C dL_law_265 266 4 rfl rfl ?_
      refine q_iload C dL_law_266 268 0 rfl rfl ?_
      refine q_iconst (v := nI 1) C dL_law_268 269 rfl (by decide) ?_
      refine q_iadd (v := nI (i + 1)) C dL_law_269 270 rfl (q_nadd (by omega)) ?_
      refine q_sld (v := nI c) C hXb hbl hbA (i + 1) rfl (by omega) (by omega) hxv dL_law_270 271 rfl ?_
      refine q_aload_n C dL_law_271 272 1 rfl rfl ?_
      refine q_reord [0, 1, 2, 3, 4, 19, 5, 6, 7, 8, 9, 10, 11, 12, 13, 14, 15, 16, 17, 18] (by decide : ([0, 1, 2, 3, 4, 19, 5, 6, 7, 8, 9, 10, 11, 12, 13, 14, 15, 16, 17, 18] : List Nat).Perm (List.range 20)) (Rs' := [wX, wO, wA, wB, wL, [(o, .inl (cJ, 1, .inr (.inl g)))], wH, vO, vA, vB, vL, wT, wK, wP, wQ, wZ, wV, wN, wU, wD]) rfl rfl ?_
      refine q_resp (Rs' := [[wX, wO, wA, wB, wL].flatten, [(o, .inl (cJ, 1, .inr (.inl g)))], wH, vO, vA, vB, vL, wT, wK, wP, wQ, wZ, wV, wN, wU, wD]) (by simp) ?_
      refine q_callSW (n := 3) (As := [.ref x, .int (nI c), .ref o]) (rest := []) (Rr := [wH, vO, vA, vB, vL, wT, wK, wP, wQ, wZ, wV, wN, wU, wD]) C (c_L_fix_x2 l hZ hJ hXs x o (nI c) (q_hd (k_isX_recv rX)) (q_Xflat (List.append_nil _).symm (c_X6_fix_b l hZ hI hN hG hXs hlT x aO aY aN hsn aT aK wX rX aB aL aS sc wO rO wA rA bx at0 wB rB ln wL rL c (by omega) hv hw)) (Nat.le_of_ble_eq_true rfl) (Nat.le_of_ble_eq_true rfl) rfl rfl g) gL_law_L_fix rfl rfl rfl (by decide +kernel) B.1 ⟨Nat.le_of_ble_eq_true rfl, Nat.le_of_ble_eq_true rfl⟩ rfl rfl (Nat.le_of_ble_eq_true rfl) dL_law_272 ⟨(by show (80 + i) + 1 ≤ 601024; omega), (by show (6951 + 2 * i) + 6 ≤ 7293034; omega)⟩ [0, 1] [2, 3, 4, 5, 6, 7, 8, 9, 10, 11, 12, 13, 14, 15] (by decide : ([0, 1] ++ ([2, 3, 4, 5, 6, 7, 8, 9, 10, 11, 12, 13, 14, 15] : List Nat)).Perm (List.range 16)) rfl rfl 275 rfl (fun v0 R0 t0 ht0 hp0 => ?_)
      obtain ⟨rfl, rfl⟩ := hp0
      refine q_eqs (st' := [.int (nI 2)]) rfl ?_
      refine q_resp (Rs' := [wX, wO, wA, wB, wL, [(o, .inl (cJ, 1, .inr (.inl g)))], wH, vO, vA, vB, vL, wT, wK, wP, wQ, wZ, wV, wN, wU, wD]) (by simp) ?_
      refine q_reord [0, 1, 2, 3, 4, 6, 7, 8, 9, 10, 11, 12, 13, 14, 15, 16, 17, 18, 19, 5] (by decide : ([0, 1, 2, 3, 4, 6, 7, 8, 9, 10, 11, 12, 13, 14, 15, 16, 17, 18, 19, 5] : List Nat).Perm (List.range 20)) (Rs' := [wX, wO, wA, wB, wL, wH, vO, vA, vB, vL, wT, wK, wP, wQ, wZ, wV, wN, wU, wD, [(o, .inl (cJ, 1, .inr (.inl g)))]]) rfl rfl ?_
      refine q_istore C dL_law_275 277 rfl [(5, .int (nI 2)), (4, .int (nI i)), (3, .ref o), (2, .ref y), (1, .ref x), (0, .ref b)] (by decide) rfl ?_
      refine q_aload_n C dL_law_277 278 3 rfl rfl ?_
      refine q_aload_n C dL_law_278 279 5 rfl rfl ?_
      refine q_iload C dL_law_279 281 1 rfl rfl ?_
      refine q_iconst (v := nI 1) C dL_law_281 282 rfl (by decide) ?_
      refine q_iadd (v := nI (i + 1)) C dL_law_282 283 rfl (q_nadd (by omega)) ?_
      refine q_sld (v := nI c) C hXb hbl hbA (i + 1) rfl (by omega) (by omega) hxv dL_law_283 284 rfl ?_
      refine q_callV (k := 12) (ci := 6) (n := 1) (rest := []) (Rr := [wX, wO, wA, wB, wL, wH, vO, vA, vB, vL, wT, wK, wZ, wV, wN, wU, wD, [(o, .inl (cJ, 1, .inr (.inl g)))]]) C rfl (k_isP_recv rP) rfl (c_X7_fix_b l hZ hI y mS mZ mV mN mU mD fd hh wP rP bx at0 ln sc wQ rQ c (by omega) hv hw) gL_law_X7_fix rfl rfl rfl (by decide +kernel) B.1 ⟨Nat.le_of_ble_eq_true rfl, Nat.le_of_ble_eq_true rfl⟩ rfl rfl (Nat.le_of_ble_eq_true rfl) dL_law_284 ⟨(by show ((80 + i) + 1) + 0 ≤ 601024; omega), (by show ((6951 + 2 * i) + 6) + 0 ≤ 7293034; omega)⟩ [12, 13] [0, 1, 2, 3, 4, 5, 6, 7, 8, 9, 10, 11, 14, 15, 16, 17, 18, 19] (by decide : ([12, 13] ++ ([0, 1, 2, 3, 4, 5, 6, 7, 8, 9, 10, 11, 14, 15, 16, 17, 18, 19] : List Nat)).Perm (List.range 20)) rfl rfl 287 rfl (fun v0 R0 t0 ht0 hp0 => ?_)
      obtain ⟨rfl, wP_284, hwP_284, rfl⟩ := hp0
      refine q_eqs (st' := [.int (nI 0)]) rfl ?_
      refine q_reord [2, 3, 4, 5, 6, 7, 8, 9, 10, 11, 12, 13, 0, 1, 14, 15, 16, 17, 18, 19] (by decide : ([2, 3, 4, 5, 6, 7, 8, 9, 10, 11, 12, 13, 0, 1, 14, 15, 16, 17, 18, 19] : List Nat).Perm (List.range 20)) (Rs' := [wX, wO, wA, wB, wL, wH, vO, vA, vB, vL, wT, wK, wP_284, wQ, wZ, wV, wN, wU, wD, [(o, .inl (cJ, 1, .inr (.inl g)))]]) rfl rfl ?_
      refine q_istore C dL_law_287 289 rfl [(6, .int (nI 0)), (5, .int (nI 2)), (4, .int (nI i)), (3, .ref o), (2, .ref y), (1, .ref x), (0, .ref b)] (by decide) rfl ?_
      refine q_aload_n C dL_law_289 290 4 rfl rfl ?_
      refine q_callV (k := 12) (ci := 6) (n := 0) (rest := []) (Rr := [wX, wO, wA, wB, wL, wH, vO, vA, vB, vL, wT, wK, wQ, wZ, wV, wN, wU, wD, [(o, .inl (cJ, 1, .inr (.inl g)))]]) C rfl (k_isP_recv hwP_284) rfl (c_X7_thrown l hZ hI y mS mZ mV mN mU mD (upd (upd fd 0 (nI 0)) 0 (nI 2)) hh wP_284 hwP_284) gL_law_X7_thrown rfl rfl rfl (by decide +kernel) B.1 ⟨Nat.le_of_ble_eq_true rfl, Nat.le_of_ble_eq_true rfl⟩ rfl rfl (Nat.le_of_ble_eq_true rfl) dL_law_290 ⟨(by show ((80 + i) + 1) + 0 ≤ 601024; omega), (by show ((6951 + 2 * i) + 6) + 0 ≤ 7293034; omega)⟩ [12] [0, 1, 2, 3, 4, 5, 6, 7, 8, 9, 10, 11, 13, 14, 15, 16, 17, 18, 19] (by decide : ([12] ++ ([0, 1, 2, 3, 4, 5, 6, 7, 8, 9, 10, 11, 13, 14, 15, 16, 17, 18, 19] : List Nat)).Perm (List.range 20)) rfl rfl 293 rfl (fun v0 R0 t0 ht0 hp0 => ?_)
      obtain ⟨rfl, rfl⟩ := hp0
      refine q_eqs (st' := [.int ((upd (upd fd 0 (nI 0)) 0 (nI 2)) 0)]) rfl ?_
      refine q_reord [1, 2, 3, 4, 5, 6, 7, 8, 9, 10, 11, 12, 0, 13, 14, 15, 16, 17, 18, 19] (by decide : ([1, 2, 3, 4, 5, 6, 7, 8, 9, 10, 11, 12, 0, 13, 14, 15, 16, 17, 18, 19] : List Nat).Perm (List.range 20)) (Rs' := [wX, wO, wA, wB, wL, wH, vO, vA, vB, vL, wT, wK, wP_284, wQ, wZ, wV, wN, wU, wD, [(o, .inl (cJ, 1, .inr (.inl g)))]]) rfl rfl ?_
      refine q_eqs (st' := [.int (nI 2)]) (by rw [pk_us]) ?_
      refine q_iload C dL_law_293 295 1 rfl rfl ?_
      refine q_icmp_eq C dL_law_295 298 300 rfl (by decide) (nI_eq (by omega) (by omega)) (fun h295 => ?_) (fun h295 => False.elim (by first | omega | simp_all))
      refine q_iload C dL_law_300 302 1 rfl rfl ?_
      refine q_if_ne C dL_law_302 305 317 rfl (by decide) (q_eq0 (by omega)) (fun h302 => ?_) (fun h302 => False.elim (by first | omega | simp_all))
      refine q_goto C dL_law_317 1304 (by decide) ?_
      refine q_sub (L' := [(4, .int (nI i)), (3, .ref o), (2, .ref y), (1, .ref x), (0, .ref b)]) [2, 3, 4, 5, 6] rfl ?_
      refine q_widen (k := 80 + i + 1) (n := 6951 + 2 * i + 6) (by omega) (by omega) ?_
      exact kk _ ⟨(bx, at0, ln, sc), sv, hsn, (sb, sa, sl, ss), (nb, na, nl, ns), tx, upd (upd fd 0 (nI 0)) 0 (nI 2), g, _, _, ⟨_, _, _, _, _, _, _, _, _, _, _, _, _, _, _, _, _, _, _, _, _, _, _, _, _, rX, ⟨rO, rA, rB, rL⟩, rH, ⟨gO, gA, gB, gL⟩, rT, rK, rfl⟩, ⟨_, _, _, _, _, _, _, (zb, za, zl, zs), _, _, _, _, _, _, _, _, _, hwP_284, rQ, rZ, rV, rN, rU, rD, rfl⟩, hIv, hIs, (by rw [pk_un (by decide), pk_un (by decide)]; exact q4), (by rw [pk_un (by decide), pk_un (by decide)]; exact q8), (k_Sn_eq hsn6 (by rw [pk_un (by decide), pk_un (by decide)])), hl6, rfl⟩
      
  · refine q_aload_n C dL_law_264 265 3 rfl rfl ?_
    refine q_aload_n C dL_law_265 266 4 rfl rfl ?_
    refine q_iload C dL_law_266 268 0 rfl rfl ?_
    refine q_iconst (v := nI 1) C dL_law_268 269 rfl (by decide) ?_
    refine q_iadd (v := nI (i + 1)) C dL_law_269 270 rfl (q_nadd (by omega)) ?_
    refine q_sld (v := v) C hXb hbl hbA (i + 1) rfl (by omega) (by omega) hxv dL_law_270 271 rfl ?_
    refine q_aload_n C dL_law_271 272 1 rfl rfl ?_
    refine q_reord [0, 1, 2, 4, 19, 3, 5, 6, 7, 8, 9, 10, 11, 12, 13, 14, 15, 16, 17, 18] (by decide : ([0, 1, 2, 4, 19, 3, 5, 6, 7, 8, 9, 10, 11, 12, 13, 14, 15, 16, 17, 18] : List Nat).Perm (List.range 20)) (Rs' := [wX, wO, wA, wL, [(o, .inl (cJ, 1, .inr (.inl g)))], wB, wH, vO, vA, vB, vL, wT, wK, wP, wQ, wZ, wV, wN, wU, wD]) rfl rfl ?_
    refine q_resp (Rs' := [[wX, wO, wA, wL].flatten, [(o, .inl (cJ, 1, .inr (.inl g)))], wB, wH, vO, vA, vB, vL, wT, wK, wP, wQ, wZ, wV, wN, wU, wD]) (by simp) ?_
    refine q_callSW (n := 3) (As := [.ref x, .int v, .ref o]) (rest := []) (Rr := [wB, wH, vO, vA, vB, vL, wT, wK, wP, wQ, wZ, wV, wN, wU, wD]) C (c_L_fix_x1 l hZ hJ hXs x o v (q_hd (k_isX_recv rX)) (q_Xflat (List.append_nil _).symm (c_X6_fix_a l hZ hI hN hG hXs hlT x aO aY aN hsn aT aK wX rX aB aL aS sc wO rO wA rA ln wL rL v (Bool.eq_false_iff.mpr hv))) (Nat.le_of_ble_eq_true rfl) (Nat.le_of_ble_eq_true rfl) rfl rfl g) gL_law_L_fix rfl rfl rfl (by decide +kernel) B.1 ⟨Nat.le_of_ble_eq_true rfl, Nat.le_of_ble_eq_true rfl⟩ rfl rfl (Nat.le_of_ble_eq_true rfl) dL_law_272 ⟨(by show (80 + i) + 1 ≤ 601024; omega), (by show (6951 + 2 * i) + 6 ≤ 7293034; omega)⟩ [0, 1] [2, 3, 4, 5, 6, 7, 8, 9, 10, 11, 12, 13, 14, 15, 16] (by decide : ([0, 1] ++ ([2, 3, 4, 5, 6, 7, 8, 9, 10, 11, 12, 13, 14, 15, 16] : List Nat)).Perm (List.range 17)) rfl rfl 275 rfl (fun v0 R0 t0 ht0 hp0 => ?_)
    obtain ⟨rfl, rfl⟩ := hp0
    refine q_eqs (st' := [.int (nI 1)]) rfl ?_
    refine q_resp (Rs' := [wX, wO, wA, wL, [(o, .inl (cJ, 1, .inr (.inl g)))], wB, wH, vO, vA, vB, vL, wT, wK, wP, wQ, wZ, wV, wN, wU, wD]) (by simp) ?_
    refine q_reord [0, 1, 2, 5, 3, 6, 7, 8, 9, 10, 11, 12, 13, 14, 15, 16, 17, 18, 19, 4] (by decide : ([0, 1, 2, 5, 3, 6, 7, 8, 9, 10, 11, 12, 13, 14, 15, 16, 17, 18, 19, 4] : List Nat).Perm (List.range 20)) (Rs' := [wX, wO, wA, wB, wL, wH, vO, vA, vB, vL, wT, wK, wP, wQ, wZ, wV, wN, wU, wD, [(o, .inl (cJ, 1, .inr (.inl g)))]]) rfl rfl ?_
    refine q_istore C dL_law_275 277 rfl [(5, .int (nI 1)), (4, .int (nI i)), (3, .ref o), (2, .ref y), (1, .ref x), (0, .ref b)] (by decide) rfl ?_
    refine q_aload_n C dL_law_277 278 3 rfl rfl ?_
    refine q_aload_n C dL_law_278 279 5 rfl rfl ?_
    refine q_iload C dL_law_279 281 1 rfl rfl ?_
    refine q_iconst (v := nI 1) C dL_law_281 282 rfl (by decide) ?_
    refine q_iadd (v := nI (i + 1)) C dL_law_282 283 rfl (q_nadd (by omega)) ?_
    refine q_sld (v := v) C hXb hbl hbA (i + 1) rfl (by omega) (by omega) hxv dL_law_283 284 rfl ?_
    refine q_callV (k := 12) (ci := 6) (n := 1) (rest := []) (Rr := [wX, wO, wA, wB, wL, wH, vO, vA, vB, vL, wT, wK, wZ, wV, wN, wU, wD, [(o, .inl (cJ, 1, .inr (.inl g)))]]) C rfl (k_isP_recv rP) rfl (c_X7_fix_a l hZ hI y mS mZ mV mN mU mD fd hh wP rP bx at0 ln sc wQ rQ v (Bool.eq_false_iff.mpr hv)) gL_law_X7_fix rfl rfl rfl (by decide +kernel) B.1 ⟨Nat.le_of_ble_eq_true rfl, Nat.le_of_ble_eq_true rfl⟩ rfl rfl (Nat.le_of_ble_eq_true rfl) dL_law_284 ⟨(by show ((80 + i) + 1) + 0 ≤ 601024; omega), (by show ((6951 + 2 * i) + 6) + 0 ≤ 7293034; omega)⟩ [12, 13] [0, 1, 2, 3, 4, 5, 6, 7, 8, 9, 10, 11, 14, 15, 16, 17, 18, 19] (by decide : ([12, 13] ++ ([0, 1, 2, 3, 4, 5, 6, 7, 8, 9, 10, 11, 14, 15, 16, 17, 18, 19] : List Nat)).Perm (List.range 20)) rfl rfl 287 rfl (fun v0 R0 t0 ht0 hp0 => ?_)
    obtain ⟨rfl, wP_284, hwP_284, rfl⟩ := hp0
    refine q_eqs (st' := [.int (nI 0)]) rfl ?_
    refine q_reord [2, 3, 4, 5, 6, 7, 8, 9, 10, 11, 12, 13, 0, 1, 14, 15, 16, 17, 18, 19] (by decide : ([2, 3, 4, 5, 6, 7, 8, 9, 10, 11, 12, 13, 0, 1, 14, 15, 16, 17, 18, 19] : List Nat).Perm (List.range 20)) (Rs' := [wX, wO, wA, wB, wL, wH, vO, vA, vB, vL, wT, wK, wP_284, wQ, wZ, wV, wN, wU, wD, [(o, .inl (cJ, 1, .inr (.inl g)))]]) rfl rfl ?_
    refine q_istore C dL_law_287 289 rfl [(6, .int (nI 0)), (5, .int (nI 1)), (4, .int (nI i)), (3, .ref o), (2, .ref y), (1, .ref x), (0, .ref b)] (by decide) rfl ?_
    refine q_aload_n C dL_law_289 290 4 rfl rfl ?_
    refine q_callV (k := 12) (ci := 6) (n := 0) (rest := []) (Rr := [wX, wO, wA, wB, wL, wH, vO, vA, vB, vL, wT, wK, wQ, wZ, wV, wN, wU, wD, [(o, .inl (cJ, 1, .inr (.inl g)))]]) C rfl (k_isP_recv hwP_284) rfl (c_X7_thrown l hZ hI y mS mZ mV mN mU mD (upd (upd fd 0 (nI 0)) 0 (nI 1)) hh wP_284 hwP_284) gL_law_X7_thrown rfl rfl rfl (by decide +kernel) B.1 ⟨Nat.le_of_ble_eq_true rfl, Nat.le_of_ble_eq_true rfl⟩ rfl rfl (Nat.le_of_ble_eq_true rfl) dL_law_290 ⟨(by show ((80 + i) + 1) + 0 ≤ 601024; omega), (by show ((6951 + 2 * i) + 6) + 0 ≤ 7293034; omega)⟩ [12] [0, 1, 2, 3, 4, 5, 6, 7, 8, 9, 10, 11, 13, 14, 15, 16, 17, 18, 19] (by decide : ([12] ++ ([0, 1, 2, 3, 4, 5, 6, 7, 8, 9, 10, 11, 13, 14, 15, 16, 17, 18, 19] : List Nat)).Perm (List.range 20)) rfl rfl 293 rfl (fun v0 R0 t0 ht0 hp0 => ?_)
    obtain ⟨rfl, rfl⟩ := hp0
    refine q_eqs (st' := [.int ((upd (upd fd 0 (nI 0)) 0 (nI 1)) 0)]) rfl ?_
    refine q_reord [1, 2, 3, 4, 5, 6, 7, 8, 9, 10, 11, 12, 0, 13, 14, 15, 16, 17, 18, 19] (by decide : ([1, 2, 3, 4, 5, 6, 7, 8, 9, 10, 11, 12, 0, 13, 14, 15, 16, 17, 18, 19] : List Nat).Perm (List.range 20)) (Rs' := [wX, wO, wA, wB, wL, wH, vO, vA, vB, vL, wT, wK, wP_284, wQ, wZ, wV, wN, wU, wD, [(o, .inl (cJ, 1, .inr (.inl g)))]]) rfl rfl ?_
    refine q_eqs (st' := [.int (nI 1)]) (by rw [pk_us]) ?_
    refine q_iload C dL_law_293 295 1 rfl rfl ?_
    refine q_icmp_eq C dL_law_295 298 300 rfl (by decide) (nI_eq (by omega) (by omega)) (fun h295 => ?_) (fun h295 => False.elim (by first | omega | simp_all))
    refine q_iload C dL_law_300 302 1 rfl rfl ?_
    refine q_if_ne C dL_law_302 305 317 rfl (by decide) (q_eq0 (by omega)) (fun h302 => ?_) (fun h302 => False.elim (by first | omega | simp_all))
    refine q_goto C dL_law_317 1304 (by decide) ?_
    refine q_sub (L' := [(4, .int (nI i)), (3, .ref o), (2, .ref y), (1, .ref x), (0, .ref b)]) [2, 3, 4, 5, 6] rfl ?_
    refine q_widen (k := 80 + i + 1) (n := 6951 + 2 * i + 6) (by omega) (by omega) ?_
    exact kk _ ⟨(bx, at0, ln, sc), sv, hsn, (sb, sa, sl, ss), (nb, na, nl, ns), tx, upd (upd fd 0 (nI 0)) 0 (nI 1), g, _, _, ⟨_, _, _, _, _, _, _, _, _, _, _, _, _, _, _, _, _, _, _, _, _, _, _, _, _, rX, ⟨rO, rA, rB, rL⟩, rH, ⟨gO, gA, gB, gL⟩, rT, rK, rfl⟩, ⟨_, _, _, _, _, _, _, (zb, za, zl, zs), _, _, _, _, _, _, _, _, _, hwP_284, rQ, rZ, rV, rN, rU, rD, rfl⟩, hIv, hIs, (by rw [pk_un (by decide), pk_un (by decide)]; exact q4), (by rw [pk_un (by decide), pk_un (by decide)]; exact q8), (k_Sn_eq hsn6 (by rw [pk_un (by decide), pk_un (by decide)])), hl6, rfl⟩
    

set_option maxHeartbeats 1000000 in
set_option maxRecDepth 100000 in
theorem law_c3 {p9 : Program} {l : Launch} {e9 : Env} {R : Room} {s9 : State} {m9 : MethodId} {args : Array Value} {below : List Frame} {meth : Method} {c9 : Code} {Q : State → Prop} {D : va_G} {tys : List (ClassId × FieldType)} {A : Nat → Prop} {Z : (Nat → Prop) → State → Heap → Prop} {b LL : Nat} {xs : Nat → Int32} {x y o i : Nat} {Rs : List va_W} (C : q_C p9 s9 m9 args c9 cL_law 9 wsL_law RL D tys Z A) (hZ : q_St Z) {cI cG cJ : ClassId} (hI : tys[0]? = some (cI, .int)) (hG : tys[1]? = some (cG, .object "SortCases$State")) (hJ : tys[2]? = some (cJ, .long)) (hN : q_Ns Z) {ad aw av : Nat → Nat} {tK : Nat} (hKs : q_Ks Z ad aw av tK) {tL tH : Nat} (hVs : q_Vs Z tL tH) (hXs : q_Xs Z) (hlT : l.stackTraces = false) (hXb : va_X b LL xs s9 s9.heap) (hbl : b < s9.heap.size) (hbA : ¬ A b) (hR : R = ({ frames := 12, cells := 601024, slots := 7293034, locals := 454 } : Room)) (hi : i + 3 ≤ LL) (hL : LL ≤ 1536) (hRs : law_I cG cI cJ x y o Rs) (kk : ∀ Rs', law_I cG cI cJ x y o Rs' → q_V p9 l e9 R s9 m9 args below meth c9 D A 9 Q (80 + i + 1) (6951 + 2 * i + 6) 1304 [(4, .int (nI i)), (3, .ref o), (2, .ref y), (1, .ref x), (0, .ref b)] [] Rs') : q_V p9 l e9 R s9 m9 args below meth c9 D A 9 Q (80 + i) (6951 + 2 * i) 320 [(4, .int (nI i)), (3, .ref o), (2, .ref y), (1, .ref x), (0, .ref b)] [] Rs := by
  have hcI := hI
  have hcG := hG
  have B : R = ({ frames := 12, cells := 601024, slots := 7293034, locals := 454 } : Room) ∧ True := ⟨hR, trivial⟩
  have hts := C.2.2.2.2.1
  obtain ⟨⟨bx, at0, ln, sc⟩, sv, hsn, ⟨sb, sa, sl, ss⟩, ⟨nb, na, nl, ns⟩, tx, fd, g, R1, R2, ⟨aO, aY, aN, aT, aK, aB, aL, aS, naB, naL, naS, kb, ka, wX, wO, wA, wB, wL, wH, vO, vA, vB, vL, wT, wK, rX, ⟨rO, rA, rB, rL⟩, rH, ⟨gO, gA, gB, gL⟩, rT, rK, rfl⟩, ⟨mS, mZ, mV, mN, mU, mD, hh, ⟨zb, za, zl, zs⟩, dx, ps, wP, wQ, wZ, wV, wN, wU, wD, rP, rQ, rZ, rV, rN, rU, rD, rfl⟩, hIv, hIs, q4, q8, hsn6, hl6, rfl⟩ := hRs
  have rO : k_isO cI aO aB aL aS sc wO := rO
  have rA : k_isA cI aS sc wA := rA
  have rB : k_isB cI aB bx at0 wB := rB
  have rL : k_isL cI aL ln wL := rL
  have gO : k_isO cI aN naB naL naS ss vO := gO
  have gA : k_isA cI naS ss vA := gA
  have gB : k_isB cI naB sb sa vB := gB
  have gL : k_isL cI naL sl vL := gL
  have rQ : k_isQ cI mS bx at0 ln sc wQ := rQ
  have rZ : k_isQ cI mZ zb za zl zs wZ := rZ
  have rN : k_isQ cI mN nb na nl ns wN := rN
  have hll : ln.length ≤ 40 := rL.1.1
  have htl : tx.length ≤ 60 := rT.1.1
  obtain ⟨v, hxv⟩ : ∃ v, xs (i + 1) = v := ⟨_, rfl⟩
  obtain ⟨v2, hxv2⟩ : ∃ v2, xs (i + 2) = v2 := ⟨_, rfl⟩
  refine q_eqR (Rs' := [wX, wO, wA, wB, wL, wH, vO, vA, vB, vL, wT, wK, wP, wQ, wZ, wV, wN, wU, wD, [(o, .inl (cJ, 1, .inr (.inl g)))]]) rfl ?_
  by_cases hw : k_wy bx ln sc = 0
  · refine q_aload_n C dL_law_320 321 3 rfl rfl ?_
    refine q_aload_n C dL_law_321 322 1 rfl rfl ?_
    refine q_reord [0, 1, 2, 3, 4, 5, 19, 6, 7, 8, 9, 10, 11, 12, 13, 14, 15, 16, 17, 18] (by decide : ([0, 1, 2, 3, 4, 5, 19, 6, 7, 8, 9, 10, 11, 12, 13, 14, 15, 16, 17, 18] : List Nat).Perm (List.range 20)) (Rs' := [wX, wO, wA, wB, wL, wH, [(o, .inl (cJ, 1, .inr (.inl g)))], vO, vA, vB, vL, wT, wK, wP, wQ, wZ, wV, wN, wU, wD]) rfl rfl ?_
    refine q_resp (Rs' := [[wX, wO, wA, wB, wL, wH].flatten, [(o, .inl (cJ, 1, .inr (.inl g)))], vO, vA, vB, vL, wT, wK, wP, wQ, wZ, wV, wN, wU, wD]) (by simp) ?_
    refine q_callSW (n := 2) (As := [.ref x, .ref o]) (rest := []) (Rr := [vO, vA, vB, vL, wT, wK, wP, wQ, wZ, wV, wN, wU, wD]) C (c_L_back_ok l hZ hJ x o  (r := nI (k_wr (k_rb bx ln sc (ln).length))) (q_hd (k_isX_recv rX)) (q_Cflat (List.append_nil _).symm (c_X6_back_b l hZ hI hN hG x aO aY aN hsn aT aK wX rX aB aL aS sc wO rO wA rA bx at0 wB rB ln wL rL sv wH rH hw)) (Nat.le_of_ble_eq_true rfl) (Nat.le_of_ble_eq_true rfl) rfl rfl (fun _ _ _ h => h.1) g) gL_law_L_back rfl rfl rfl (by decide +kernel) B.1 ⟨Nat.le_of_ble_eq_true rfl, Nat.le_of_ble_eq_true rfl⟩ rfl rfl (Nat.le_of_ble_eq_true rfl) dL_law_322 ⟨(by show (80 + i) + 0 ≤ 601024; omega), (by show (6951 + 2 * i) + 0 ≤ 7293034; omega)⟩ [0, 1] [2, 3, 4, 5, 6, 7, 8, 9, 10, 11, 12, 13, 14] (by decide : ([0, 1] ++ ([2, 3, 4, 5, 6, 7, 8, 9, 10, 11, 12, 13, 14] : List Nat)).Perm (List.range 15)) rfl rfl 325 rfl (fun v0 R0 t0 ht0 hp0 => ?_)
    obtain ⟨rfl, R1, t1, ⟨-, wO_322, hwO_322, wA_322, hwA_322, wB_322, hwB_322, wL_322, hwL_322, wH_322, hwH_322, rfl⟩, rfl⟩ := hp0
    refine q_eqs (st' := [.int (nI 0)]) rfl ?_
    refine q_resp (Rs' := [wX, wO_322, wA_322, wB_322, wL_322, wH_322, [(o, .inl (cJ, 1, .inr (.inl (va_up g 0 (nI (k_wr (k_rb bx ln sc (ln).length))).toInt64))))], vO, vA, vB, vL, wT, wK, wP, wQ, wZ, wV, wN, wU, wD]) (by simp) ?_
    refine q_reord [0, 1, 2, 3, 4, 5, 7, 8, 9, 10, 11, 12, 13, 14, 15, 16, 17, 18, 19, 6] (by decide : ([0, 1, 2, 3, 4, 5, 7, 8, 9, 10, 11, 12, 13, 14, 15, 16, 17, 18, 19, 6] : List Nat).Perm (List.range 20)) (Rs' := [wX, wO_322, wA_322, wB_322, wL_322, wH_322, vO, vA, vB, vL, wT, wK, wP, wQ, wZ, wV, wN, wU, wD, [(o, .inl (cJ, 1, .inr (.inl (va_up g 0 (nI (k_wr (k_rb bx ln sc (ln).length))).toInt64))))]]) rfl rfl ?_
    refine q_istore C dL_law_325 327 rfl [(5, .int (nI 0)), (4, .int (nI i)), (3, .ref o), (2, .ref y), (1, .ref x), (0, .ref b)] (by decide) rfl ?_
    refine q_aload_n C dL_law_327 328 3 rfl rfl ?_
    refine q_callV (k := 12) (ci := 6) (n := 0) (rest := []) (Rr := [wX, wO_322, wA_322, wB_322, wL_322, wH_322, vO, vA, vB, vL, wT, wK, wZ, wN, wU, wD, [(o, .inl (cJ, 1, .inr (.inl (va_up g 0 (nI (k_wr (k_rb bx ln sc (ln).length))).toInt64))))]]) C rfl (k_isP_recv rP) rfl (c_X7_back_b l hZ hI y mS mZ mV mN mU mD fd hh wP rP bx at0 ln sc wQ rQ sv wV rV hw q4) gL_law_X7_back rfl rfl rfl (by decide +kernel) B.1 ⟨Nat.le_of_ble_eq_true rfl, Nat.le_of_ble_eq_true rfl⟩ rfl rfl (Nat.le_of_ble_eq_true rfl) dL_law_328 ⟨(by show ((80 + i) + 0) + 0 ≤ 601024; omega), (by show ((6951 + 2 * i) + 0) + 0 ≤ 7293034; omega)⟩ [12, 13, 15] [0, 1, 2, 3, 4, 5, 6, 7, 8, 9, 10, 11, 14, 16, 17, 18, 19] (by decide : ([12, 13, 15] ++ ([0, 1, 2, 3, 4, 5, 6, 7, 8, 9, 10, 11, 14, 16, 17, 18, 19] : List Nat)).Perm (List.range 20)) rfl rfl 331 rfl (fun v0 R0 t0 ht0 hp0 => ?_)
    obtain ⟨rfl, wP_328, hwP_328, wQ_328, hwQ_328, wV_328, hwV_328, rfl⟩ := hp0
    refine q_eqs (st' := [.int (nI (k_wr (k_rb bx ln sc (ln).length)))]) rfl ?_
    refine q_reord [3, 4, 5, 6, 7, 8, 9, 10, 11, 12, 13, 14, 0, 1, 15, 2, 16, 17, 18, 19] (by decide : ([3, 4, 5, 6, 7, 8, 9, 10, 11, 12, 13, 14, 0, 1, 15, 2, 16, 17, 18, 19] : List Nat).Perm (List.range 20)) (Rs' := [wX, wO_322, wA_322, wB_322, wL_322, wH_322, vO, vA, vB, vL, wT, wK, wP_328, wQ_328, wZ, wV_328, wN, wU, wD, [(o, .inl (cJ, 1, .inr (.inl (va_up g 0 (nI (k_wr (k_rb bx ln sc (ln).length))).toInt64))))]]) rfl rfl ?_
    refine q_istore C dL_law_331 333 rfl [(6, .int (nI (k_wr (k_rb bx ln sc (ln).length)))), (5, .int (nI 0)), (4, .int (nI i)), (3, .ref o), (2, .ref y), (1, .ref x), (0, .ref b)] (by decide) rfl ?_
    refine q_aload_n C dL_law_333 334 4 rfl rfl ?_
    refine q_callV (k := 12) (ci := 6) (n := 0) (rest := []) (Rr := [wX, wO_322, wA_322, wB_322, wL_322, wH_322, vO, vA, vB, vL, wT, wK, wQ_328, wZ, wV_328, wN, wU, wD, [(o, .inl (cJ, 1, .inr (.inl (va_up g 0 (nI (k_wr (k_rb bx ln sc (ln).length))).toInt64))))]]) C rfl (k_isP_recv hwP_328) rfl (c_X7_thrown l hZ hI y mS mZ mV mN mU mD (upd (upd fd 0 (nI 0)) 4 (nI (k_sav sv (bx, at0, ln, sc)).length)) hh wP_328 hwP_328) gL_law_X7_thrown rfl rfl rfl (by decide +kernel) B.1 ⟨Nat.le_of_ble_eq_true rfl, Nat.le_of_ble_eq_true rfl⟩ rfl rfl (Nat.le_of_ble_eq_true rfl) dL_law_334 ⟨(by show ((80 + i) + 0) + 0 ≤ 601024; omega), (by show ((6951 + 2 * i) + 0) + 0 ≤ 7293034; omega)⟩ [12] [0, 1, 2, 3, 4, 5, 6, 7, 8, 9, 10, 11, 13, 14, 15, 16, 17, 18, 19] (by decide : ([12] ++ ([0, 1, 2, 3, 4, 5, 6, 7, 8, 9, 10, 11, 13, 14, 15, 16, 17, 18, 19] : List Nat)).Perm (List.range 20)) rfl rfl 337 rfl (fun v0 R0 t0 ht0 hp0 => ?_)
    obtain ⟨rfl, rfl⟩ := hp0
    refine q_eqs (st' := [.int ((upd (upd fd 0 (nI 0)) 4 (nI (k_sav sv (bx, at0, ln, sc)).length)) 0)]) rfl ?_
    refine q_reord [1, 2, 3, 4, 5, 6, 7, 8, 9, 10, 11, 12, 0, 13, 14, 15, 16, 17, 18, 19] (by decide : ([1, 2, 3, 4, 5, 6, 7, 8, 9, 10, 11, 12, 0, 13, 14, 15, 16, 17, 18, 19] : List Nat).Perm (List.range 20)) (Rs' := [wX, wO_322, wA_322, wB_322, wL_322, wH_322, vO, vA, vB, vL, wT, wK, wP_328, wQ_328, wZ, wV_328, wN, wU, wD, [(o, .inl (cJ, 1, .inr (.inl (va_up g 0 (nI (k_wr (k_rb bx ln sc (ln).length))).toInt64))))]]) rfl rfl ?_
    refine q_eqs (st' := [.int (nI 0)]) (by rw [pk_un (by decide), pk_us]) ?_
    refine q_iload C dL_law_337 339 1 rfl rfl ?_
    refine q_icmp_eq C dL_law_339 342 344 rfl (by decide) (nI_eq (by omega) (by omega)) (fun h339 => ?_) (fun h339 => False.elim (by first | omega | simp_all))
    refine q_iload C dL_law_344 346 1 rfl rfl ?_
    refine q_if_ne C dL_law_346 349 361 rfl (by decide) (q_eq0 (by omega)) (fun h346 => False.elim (by first | omega | simp_all)) (fun h346 => ?_)
    refine q_aload_n C dL_law_349 350 3 rfl rfl ?_
    refine q_iconst (v := nI 0) C dL_law_350 351 rfl (by decide) ?_
    refine q_lald (k := 19) (j := 0) (v := (nI (k_wr (k_rb bx ln sc (ln).length))).toInt64) C dL_law_351 352 rfl rfl rfl hJ 0 rfl (by decide) (by decide) k_up_s ?_
    refine q_iload C dL_law_352 354 0 rfl rfl ?_
    refine q_i2l (v := ((nI (k_wr (k_rb bx ln sc (ln).length))) : Int32).toInt64) C dL_law_354 355 rfl rfl ?_
    refine q_lcmp C dL_law_355 356 rfl ?_
    refine q_if_eq C dL_law_356 359 361 rfl (by decide) Iff.rfl (fun h356 => ?_) (fun h356 => False.elim (h356 (lg_self _)))
    refine q_goto C dL_law_361 1304 (by decide) ?_
    refine q_sub (L' := [(4, .int (nI i)), (3, .ref o), (2, .ref y), (1, .ref x), (0, .ref b)]) [2, 3, 4, 5, 6] rfl ?_
    refine q_widen (k := 80 + i + 1) (n := 6951 + 2 * i + 6) (by omega) (by omega) ?_
    exact kk _ ⟨k_ret (bx, at0, ln, sc), (k_sav sv (bx, at0, ln, sc)), hsn, (sb, sa, sl, ss), (nb, na, nl, ns), tx, upd (upd fd 0 (nI 0)) 4 (nI (k_sav sv (bx, at0, ln, sc)).length), va_up g 0 (nI (k_wr (k_rb bx ln sc (ln).length))).toInt64, _, _, ⟨_, _, _, _, _, _, _, _, _, _, _, _, _, _, _, _, _, _, _, _, _, _, _, _, _, rX, ⟨hwO_322, hwA_322, hwB_322, hwL_322⟩, hwH_322, ⟨gO, gA, gB, gL⟩, rT, rK, rfl⟩, ⟨_, _, _, _, _, _, _, (zb, za, zl, zs), _, _, _, _, _, _, _, _, _, hwP_328, hwQ_328, rZ, hwV_328, rN, rU, rD, rfl⟩, (k_Iv_ret hIv hw), (k_Iv_sav hIs hIv), (by rw [pk_us]), (by rw [pk_un (by decide), pk_un (by decide)]; exact q8), (k_Sn_eq hsn6 (by rw [pk_un (by decide), pk_un (by decide)])), (k_sav_6' hl6), rfl⟩
    
  · refine q_aload_n C dL_law_320 321 3 rfl rfl ?_
    refine q_aload_n C dL_law_321 322 1 rfl rfl ?_
    refine q_reord [0, 1, 2, 3, 4, 19, 5, 6, 7, 8, 9, 10, 11, 12, 13, 14, 15, 16, 17, 18] (by decide : ([0, 1, 2, 3, 4, 19, 5, 6, 7, 8, 9, 10, 11, 12, 13, 14, 15, 16, 17, 18] : List Nat).Perm (List.range 20)) (Rs' := [wX, wO, wA, wB, wL, [(o, .inl (cJ, 1, .inr (.inl g)))], wH, vO, vA, vB, vL, wT, wK, wP, wQ, wZ, wV, wN, wU, wD]) rfl rfl ?_
    refine q_resp (Rs' := [[wX, wO, wA, wB, wL].flatten, [(o, .inl (cJ, 1, .inr (.inl g)))], wH, vO, vA, vB, vL, wT, wK, wP, wQ, wZ, wV, wN, wU, wD]) (by simp) ?_
    refine q_callSW (n := 2) (As := [.ref x, .ref o]) (rest := []) (Rr := [wH, vO, vA, vB, vL, wT, wK, wP, wQ, wZ, wV, wN, wU, wD]) C (c_L_back_x1 l hZ hJ hXs x o  (q_hd (k_isX_recv rX)) (q_Xflat (List.append_nil _).symm (c_X6_back_a l hZ hI hN hG hXs hlT x aO aY aN hsn aT aK wX rX aB aL aS sc wO rO wA rA bx at0 wB rB ln wL rL hw)) (Nat.le_of_ble_eq_true rfl) (Nat.le_of_ble_eq_true rfl) rfl rfl g) gL_law_L_back rfl rfl rfl (by decide +kernel) B.1 ⟨Nat.le_of_ble_eq_true rfl, Nat.le_of_ble_eq_true rfl⟩ rfl rfl (Nat.le_of_ble_eq_true rfl) dL_law_322 ⟨(by show (80 + i) + 1 ≤ 601024; omega), (by show (6951 + 2 * i) + 6 ≤ 7293034; omega)⟩ [0, 1] [2, 3, 4, 5, 6, 7, 8, 9, 10, 11, 12, 13, 14, 15] (by decide : ([0, 1] ++ ([2, 3, 4, 5, 6, 7, 8, 9, 10, 11, 12, 13, 14, 15] : List Nat)).Perm (List.range 16)) rfl rfl 325 rfl (fun v0 R0 t0 ht0 hp0 => ?_)
    obtain ⟨rfl, rfl⟩ := hp0
    refine q_eqs (st' := [.int (nI 1)]) rfl ?_
    refine q_resp (Rs' := [wX, wO, wA, wB, wL, [(o, .inl (cJ, 1, .inr (.inl g)))], wH, vO, vA, vB, vL, wT, wK, wP, wQ, wZ, wV, wN, wU, wD]) (by simp) ?_
    refine q_reord [0, 1, 2, 3, 4, 6, 7, 8, 9, 10, 11, 12, 13, 14, 15, 16, 17, 18, 19, 5] (by decide : ([0, 1, 2, 3, 4, 6, 7, 8, 9, 10, 11, 12, 13, 14, 15, 16, 17, 18, 19, 5] : List Nat).Perm (List.range 20)) (Rs' := [wX, wO, wA, wB, wL, wH, vO, vA, vB, vL, wT, wK, wP, wQ, wZ, wV, wN, wU, wD, [(o, .inl (cJ, 1, .inr (.inl g)))]]) rfl rfl ?_
    refine q_istore C dL_law_325 327 rfl [(5, .int (nI 1)), (4, .int (nI i)), (3, .ref o), (2, .ref y), (1, .ref x), (0, .ref b)] (by decide) rfl ?_
    refine q_aload_n C dL_law_327 328 3 rfl rfl ?_
    refine q_callV (k := 12) (ci := 6) (n := 0) (rest := []) (Rr := [wX, wO, wA, wB, wL, wH, vO, vA, vB, vL, wT, wK, wZ, wV, wN, wU, wD, [(o, .inl (cJ, 1, .inr (.inl g)))]]) C rfl (k_isP_recv rP) rfl (c_X7_back_a l hZ hI y mS mZ mV mN mU mD fd hh wP rP bx at0 ln sc wQ rQ hw) gL_law_X7_back rfl rfl rfl (by decide +kernel) B.1 ⟨Nat.le_of_ble_eq_true rfl, Nat.le_of_ble_eq_true rfl⟩ rfl rfl (Nat.le_of_ble_eq_true rfl) dL_law_328 ⟨(by show ((80 + i) + 1) + 0 ≤ 601024; omega), (by show ((6951 + 2 * i) + 6) + 0 ≤ 7293034; omega)⟩ [12, 13] [0, 1, 2, 3, 4, 5, 6, 7, 8, 9, 10, 11, 14, 15, 16, 17, 18, 19] (by decide : ([12, 13] ++ ([0, 1, 2, 3, 4, 5, 6, 7, 8, 9, 10, 11, 14, 15, 16, 17, 18, 19] : List Nat)).Perm (List.range 20)) rfl rfl 331 rfl (fun v0 R0 t0 ht0 hp0 => ?_)
    obtain ⟨rfl, wP_328, hwP_328, rfl⟩ := hp0
    refine q_eqs (st' := [.int (nI 0)]) rfl ?_
    refine q_reord [2, 3, 4, 5, 6, 7, 8, 9, 10, 11, 12, 13, 0, 1, 14, 15, 16, 17, 18, 19] (by decide : ([2, 3, 4, 5, 6, 7, 8, 9, 10, 11, 12, 13, 0, 1, 14, 15, 16, 17, 18, 19] : List Nat).Perm (List.range 20)) (Rs' := [wX, wO, wA, wB, wL, wH, vO, vA, vB, vL, wT, wK, wP_328, wQ, wZ, wV, wN, wU, wD, [(o, .inl (cJ, 1, .inr (.inl g)))]]) rfl rfl ?_
    refine q_istore C dL_law_331 333 rfl [(6, .int (nI 0)), (5, .int (nI 1)), (4, .int (nI i)), (3, .ref o), (2, .ref y), (1, .ref x), (0, .ref b)] (by decide) rfl ?_
    refine q_aload_n C dL_law_333 334 4 rfl rfl ?_
    refine q_callV (k := 12) (ci := 6) (n := 0) (rest := []) (Rr := [wX, wO, wA, wB, wL, wH, vO, vA, vB, vL, wT, wK, wQ, wZ, wV, wN, wU, wD, [(o, .inl (cJ, 1, .inr (.inl g)))]]) C rfl (k_isP_recv hwP_328) rfl (c_X7_thrown l hZ hI y mS mZ mV mN mU mD (upd (upd fd 0 (nI 0)) 0 (nI 1)) hh wP_328 hwP_328) gL_law_X7_thrown rfl rfl rfl (by decide +kernel) B.1 ⟨Nat.le_of_ble_eq_true rfl, Nat.le_of_ble_eq_true rfl⟩ rfl rfl (Nat.le_of_ble_eq_true rfl) dL_law_334 ⟨(by show ((80 + i) + 1) + 0 ≤ 601024; omega), (by show ((6951 + 2 * i) + 6) + 0 ≤ 7293034; omega)⟩ [12] [0, 1, 2, 3, 4, 5, 6, 7, 8, 9, 10, 11, 13, 14, 15, 16, 17, 18, 19] (by decide : ([12] ++ ([0, 1, 2, 3, 4, 5, 6, 7, 8, 9, 10, 11, 13, 14, 15, 16, 17, 18, 19] : List Nat)).Perm (List.range 20)) rfl rfl 337 rfl (fun v0 R0 t0 ht0 hp0 => ?_)
    obtain ⟨rfl, rfl⟩ := hp0
    refine q_eqs (st' := [.int ((upd (upd fd 0 (nI 0)) 0 (nI 1)) 0)]) rfl ?_
    refine q_reord [1, 2, 3, 4, 5, 6, 7, 8, 9, 10, 11, 12, 0, 13, 14, 15, 16, 17, 18, 19] (by decide : ([1, 2, 3, 4, 5, 6, 7, 8, 9, 10, 11, 12, 0, 13, 14, 15, 16, 17, 18, 19] : List Nat).Perm (List.range 20)) (Rs' := [wX, wO, wA, wB, wL, wH, vO, vA, vB, vL, wT, wK, wP_328, wQ, wZ, wV, wN, wU, wD, [(o, .inl (cJ, 1, .inr (.inl g)))]]) rfl rfl ?_
    refine q_eqs (st' := [.int (nI 1)]) (by rw [pk_us]) ?_
    refine q_iload C dL_law_337 339 1 rfl rfl ?_
    refine q_icmp_eq C dL_law_339 342 344 rfl (by decide) (nI_eq (by omega) (by omega)) (fun h339 => ?_) (fun h339 => False.elim (by first | omega | simp_all))
    refine q_iload C dL_law_344 346 1 rfl rfl ?_
    refine q_if_ne C dL_law_346 349 361 rfl (by decide) (q_eq0 (by omega)) (fun h346 => ?_) (fun h346 => False.elim (by first | omega | simp_all))
    refine q_goto C dL_law_361 1304 (by decide) ?_
    refine q_sub (L' := [(4, .int (nI i)), (3, .ref o), (2, .ref y), (1, .ref x), (0, .ref b)]) [2, 3, 4, 5, 6] rfl ?_
    refine q_widen (k := 80 + i + 1) (n := 6951 + 2 * i + 6) (by omega) (by omega) ?_
    exact kk _ ⟨(bx, at0, ln, sc), sv, hsn, (sb, sa, sl, ss), (nb, na, nl, ns), tx, upd (upd fd 0 (nI 0)) 0 (nI 1), g, _, _, ⟨_, _, _, _, _, _, _, _, _, _, _, _, _, _, _, _, _, _, _, _, _, _, _, _, _, rX, ⟨rO, rA, rB, rL⟩, rH, ⟨gO, gA, gB, gL⟩, rT, rK, rfl⟩, ⟨_, _, _, _, _, _, _, (zb, za, zl, zs), _, _, _, _, _, _, _, _, _, hwP_328, rQ, rZ, rV, rN, rU, rD, rfl⟩, hIv, hIs, (by rw [pk_un (by decide), pk_un (by decide)]; exact q4), (by rw [pk_un (by decide), pk_un (by decide)]; exact q8), (k_Sn_eq hsn6 (by rw [pk_un (by decide), pk_un (by decide)])), hl6, rfl⟩
    

set_option maxHeartbeats 1000000 in
set_option maxRecDepth 100000 in
theorem law_c4 {p9 : Program} {l : Launch} {e9 : Env} {R : Room} {s9 : State} {m9 : MethodId} {args : Array Value} {below : List Frame} {meth : Method} {c9 : Code} {Q : State → Prop} {D : va_G} {tys : List (ClassId × FieldType)} {A : Nat → Prop} {Z : (Nat → Prop) → State → Heap → Prop} {b LL : Nat} {xs : Nat → Int32} {x y o i : Nat} {Rs : List va_W} (C : q_C p9 s9 m9 args c9 cL_law 9 wsL_law RL D tys Z A) (hZ : q_St Z) {cI cG cJ : ClassId} (hI : tys[0]? = some (cI, .int)) (hG : tys[1]? = some (cG, .object "SortCases$State")) (hJ : tys[2]? = some (cJ, .long)) (hN : q_Ns Z) {ad aw av : Nat → Nat} {tK : Nat} (hKs : q_Ks Z ad aw av tK) {tL tH : Nat} (hVs : q_Vs Z tL tH) (hXs : q_Xs Z) (hlT : l.stackTraces = false) (hXb : va_X b LL xs s9 s9.heap) (hbl : b < s9.heap.size) (hbA : ¬ A b) (hR : R = ({ frames := 12, cells := 601024, slots := 7293034, locals := 454 } : Room)) (hi : i + 3 ≤ LL) (hL : LL ≤ 1536) (hRs : law_I cG cI cJ x y o Rs) (kk : ∀ Rs', law_I cG cI cJ x y o Rs' → q_V p9 l e9 R s9 m9 args below meth c9 D A 9 Q (80 + i + 1) (6951 + 2 * i + 6) 1304 [(4, .int (nI i)), (3, .ref o), (2, .ref y), (1, .ref x), (0, .ref b)] [] Rs') : q_V p9 l e9 R s9 m9 args below meth c9 D A 9 Q (80 + i) (6951 + 2 * i) 364 [(4, .int (nI i)), (3, .ref o), (2, .ref y), (1, .ref x), (0, .ref b)] [] Rs := by
  have hcI := hI
  have hcG := hG
  have B : R = ({ frames := 12, cells := 601024, slots := 7293034, locals := 454 } : Room) ∧ True := ⟨hR, trivial⟩
  have hts := C.2.2.2.2.1
  obtain ⟨⟨bx, at0, ln, sc⟩, sv, hsn, ⟨sb, sa, sl, ss⟩, ⟨nb, na, nl, ns⟩, tx, fd, g, R1, R2, ⟨aO, aY, aN, aT, aK, aB, aL, aS, naB, naL, naS, kb, ka, wX, wO, wA, wB, wL, wH, vO, vA, vB, vL, wT, wK, rX, ⟨rO, rA, rB, rL⟩, rH, ⟨gO, gA, gB, gL⟩, rT, rK, rfl⟩, ⟨mS, mZ, mV, mN, mU, mD, hh, ⟨zb, za, zl, zs⟩, dx, ps, wP, wQ, wZ, wV, wN, wU, wD, rP, rQ, rZ, rV, rN, rU, rD, rfl⟩, hIv, hIs, q4, q8, hsn6, hl6, rfl⟩ := hRs
  have rO : k_isO cI aO aB aL aS sc wO := rO
  have rA : k_isA cI aS sc wA := rA
  have rB : k_isB cI aB bx at0 wB := rB
  have rL : k_isL cI aL ln wL := rL
  have gO : k_isO cI aN naB naL naS ss vO := gO
  have gA : k_isA cI naS ss vA := gA
  have gB : k_isB cI naB sb sa vB := gB
  have gL : k_isL cI naL sl vL := gL
  have rQ : k_isQ cI mS bx at0 ln sc wQ := rQ
  have rZ : k_isQ cI mZ zb za zl zs wZ := rZ
  have rN : k_isQ cI mN nb na nl ns wN := rN
  have hll : ln.length ≤ 40 := rL.1.1
  have htl : tx.length ≤ 60 := rT.1.1
  obtain ⟨v, hxv⟩ : ∃ v, xs (i + 1) = v := ⟨_, rfl⟩
  obtain ⟨v2, hxv2⟩ : ∃ v2, xs (i + 2) = v2 := ⟨_, rfl⟩
  refine q_eqR (Rs' := [wX, wO, wA, wB, wL, wH, vO, vA, vB, vL, wT, wK, wP, wQ, wZ, wV, wN, wU, wD, [(o, .inl (cJ, 1, .inr (.inl g)))]]) rfl ?_
  by_cases hv : (0 : Int32) ≤ v ∧ v < 12
  · obtain ⟨c, hc, rfl⟩ := k_ex12 hv
    by_cases hv2 : (0 : Int32) ≤ v2 ∧ v2 < 12
    · obtain ⟨c2, hc2, rfl⟩ := k_ex12 hv2
      refine q_aload_n C dL_law_364 365 3 rfl rfl ?_
      refine q_aload_n C dL_law_365 366 4 rfl rfl ?_
      refine q_iload C dL_law_366 368 0 rfl rfl ?_
      refine q_iconst (v := nI 1) C dL_law_368 369 rfl (by decide) ?_
      refine q_iadd (v := nI (i + 1)) C dL_law_369 370 rfl (q_nadd (by omega)) ?_
      refine q_sld (v := nI c) C hXb hbl hbA (i + 1) rfl (by omega) (by omega) hxv dL_law_370 371 rfl ?_
      refine q_aload_n C dL_law_371 372 4 rfl rfl ?_
      refine q_iload C dL_law_372 374 0 rfl rfl ?_
      refine q_iconst (v := nI 2) C dL_law_374 375 rfl (by decide) ?_
      refine q_iadd (v := nI (i + 2)) C dL_law_375 376 rfl (q_nadd (by omega)) ?_
      refine q_sld (v := nI c2) C hXb hbl hbA (i + 2) rfl (by omega) (by omega) hxv2 dL_law_376 377 rfl ?_
      refine q_aload_n C dL_law_377 378 1 rfl rfl ?_
      refine q_reord [0, 1, 2, 3, 4, 5, 19, 6, 7, 8, 9, 10, 11, 12, 13, 14, 15, 16, 17, 18] (by decide : ([0, 1, 2, 3, 4, 5, 19, 6, 7, 8, 9, 10, 11, 12, 13, 14, 15, 16, 17, 18] : List Nat).Perm (List.range 20)) (Rs' := [wX, wO, wA, wB, wL, wH, [(o, .inl (cJ, 1, .inr (.inl g)))], vO, vA, vB, vL, wT, wK, wP, wQ, wZ, wV, wN, wU, wD]) rfl rfl ?_
      refine q_resp (Rs' := [[wX, wO, wA, wB, wL, wH].flatten, [(o, .inl (cJ, 1, .inr (.inl g)))], vO, vA, vB, vL, wT, wK, wP, wQ, wZ, wV, wN, wU, wD]) (by simp) ?_
      refine q_callSW (n := 4) (As := [.ref x, .int (nI c), .int (nI c2), .ref o]) (rest := []) (Rr := [vO, vA, vB, vL, wT, wK, wP, wQ, wZ, wV, wN, wU, wD]) C (c_L_swap_ok l hZ hJ x o (nI c) (nI c2) (r := nI (k_wr (k_ex bx c c2))) (q_hd (k_isX_recv rX)) (q_Cflat (List.append_nil _).symm (c_X6_swap_c l hZ hI hN hG x aO aY aN hsn aT aK wX rX aB aL aS sc wO rO wA rA bx at0 wB rB ln wL rL sv wH rH c c2 (by omega) (by omega))) (Nat.le_of_ble_eq_true rfl) (Nat.le_of_ble_eq_true rfl) rfl rfl (fun _ _ _ h => h.1) g) gL_law_L_swap rfl rfl rfl (by decide +kernel) B.1 ⟨Nat.le_of_ble_eq_true rfl, Nat.le_of_ble_eq_true rfl⟩ rfl rfl (Nat.le_of_ble_eq_true rfl) dL_law_378 ⟨(by show (80 + i) + 0 ≤ 601024; omega), (by show (6951 + 2 * i) + 0 ≤ 7293034; omega)⟩ [0, 1] [2, 3, 4, 5, 6, 7, 8, 9, 10, 11, 12, 13, 14] (by decide : ([0, 1] ++ ([2, 3, 4, 5, 6, 7, 8, 9, 10, 11, 12, 13, 14] : List Nat)).Perm (List.range 15)) rfl rfl 381 rfl (fun v0 R0 t0 ht0 hp0 => ?_)
      obtain ⟨rfl, R1, t1, ⟨-, wO_378, hwO_378, wA_378, hwA_378, wB_378, hwB_378, wH_378, hwH_378, rfl⟩, rfl⟩ := hp0
      refine q_eqs (st' := [.int (nI 0)]) rfl ?_
      refine q_resp (Rs' := [wX, wO_378, wA_378, wB_378, wL, wH_378, [(o, .inl (cJ, 1, .inr (.inl (va_up g 0 (nI (k_wr (k_ex bx c c2))).toInt64))))], vO, vA, vB, vL, wT, wK, wP, wQ, wZ, wV, wN, wU, wD]) (by simp) ?_
      refine q_reord [0, 1, 2, 3, 4, 5, 7, 8, 9, 10, 11, 12, 13, 14, 15, 16, 17, 18, 19, 6] (by decide : ([0, 1, 2, 3, 4, 5, 7, 8, 9, 10, 11, 12, 13, 14, 15, 16, 17, 18, 19, 6] : List Nat).Perm (List.range 20)) (Rs' := [wX, wO_378, wA_378, wB_378, wL, wH_378, vO, vA, vB, vL, wT, wK, wP, wQ, wZ, wV, wN, wU, wD, [(o, .inl (cJ, 1, .inr (.inl (va_up g 0 (nI (k_wr (k_ex bx c c2))).toInt64))))]]) rfl rfl ?_
      refine q_istore C dL_law_381 383 rfl [(5, .int (nI 0)), (4, .int (nI i)), (3, .ref o), (2, .ref y), (1, .ref x), (0, .ref b)] (by decide) rfl ?_
      refine q_aload_n C dL_law_383 384 3 rfl rfl ?_
      refine q_aload_n C dL_law_384 385 5 rfl rfl ?_
      refine q_iload C dL_law_385 387 1 rfl rfl ?_
      refine q_iconst (v := nI 1) C dL_law_387 388 rfl (by decide) ?_
      refine q_iadd (v := nI (i + 1)) C dL_law_388 389 rfl (q_nadd (by omega)) ?_
      refine q_sld (v := nI c) C hXb hbl hbA (i + 1) rfl (by omega) (by omega) hxv dL_law_389 390 rfl ?_
      refine q_aload_n C dL_law_390 391 5 rfl rfl ?_
      refine q_iload C dL_law_391 393 1 rfl rfl ?_
      refine q_iconst (v := nI 2) C dL_law_393 394 rfl (by decide) ?_
      refine q_iadd (v := nI (i + 2)) C dL_law_394 395 rfl (q_nadd (by omega)) ?_
      refine q_sld (v := nI c2) C hXb hbl hbA (i + 2) rfl (by omega) (by omega) hxv2 dL_law_395 396 rfl ?_
      refine q_callV (k := 12) (ci := 6) (n := 2) (rest := []) (Rr := [wX, wO_378, wA_378, wB_378, wL, wH_378, vO, vA, vB, vL, wT, wK, wZ, wN, wU, wD, [(o, .inl (cJ, 1, .inr (.inl (va_up g 0 (nI (k_wr (k_ex bx c c2))).toInt64))))]]) C rfl (k_isP_recv rP) rfl (c_X7_swap_c l hZ hI y mS mZ mV mN mU mD fd hh wP rP bx at0 ln sc wQ rQ sv wV rV c c2 (by omega) (by omega) q4) gL_law_X7_swap rfl rfl rfl (by decide +kernel) B.1 ⟨Nat.le_of_ble_eq_true rfl, Nat.le_of_ble_eq_true rfl⟩ rfl rfl (Nat.le_of_ble_eq_true rfl) dL_law_396 ⟨(by show ((80 + i) + 0) + 0 ≤ 601024; omega), (by show ((6951 + 2 * i) + 0) + 0 ≤ 7293034; omega)⟩ [12, 13, 15] [0, 1, 2, 3, 4, 5, 6, 7, 8, 9, 10, 11, 14, 16, 17, 18, 19] (by decide : ([12, 13, 15] ++ ([0, 1, 2, 3, 4, 5, 6, 7, 8, 9, 10, 11, 14, 16, 17, 18, 19] : List Nat)).Perm (List.range 20)) rfl rfl 399 rfl (fun v0 R0 t0 ht0 hp0 => ?_)
      obtain ⟨rfl, wP_396, hwP_396, wQ_396, hwQ_396, wV_396, hwV_396, rfl⟩ := hp0
      refine q_eqs (st' := [.int (nI (k_wr (k_ex bx c c2)))]) rfl ?_
      refine q_reord [3, 4, 5, 6, 7, 8, 9, 10, 11, 12, 13, 14, 0, 1, 15, 2, 16, 17, 18, 19] (by decide : ([3, 4, 5, 6, 7, 8, 9, 10, 11, 12, 13, 14, 0, 1, 15, 2, 16, 17, 18, 19] : List Nat).Perm (List.range 20)) (Rs' := [wX, wO_378, wA_378, wB_378, wL, wH_378, vO, vA, vB, vL, wT, wK, wP_396, wQ_396, wZ, wV_396, wN, wU, wD, [(o, .inl (cJ, 1, .inr (.inl (va_up g 0 (nI (k_wr (k_ex bx c c2))).toInt64))))]]) rfl rfl ?_
      refine q_istore C dL_law_399 401 rfl [(6, .int (nI (k_wr (k_ex bx c c2)))), (5, .int (nI 0)), (4, .int (nI i)), (3, .ref o), (2, .ref y), (1, .ref x), (0, .ref b)] (by decide) rfl ?_
      refine q_aload_n C dL_law_401 402 4 rfl rfl ?_
      refine q_callV (k := 12) (ci := 6) (n := 0) (rest := []) (Rr := [wX, wO_378, wA_378, wB_378, wL, wH_378, vO, vA, vB, vL, wT, wK, wQ_396, wZ, wV_396, wN, wU, wD, [(o, .inl (cJ, 1, .inr (.inl (va_up g 0 (nI (k_wr (k_ex bx c c2))).toInt64))))]]) C rfl (k_isP_recv hwP_396) rfl (c_X7_thrown l hZ hI y mS mZ mV mN mU mD (upd (upd fd 0 (nI 0)) 4 (nI (k_sav sv (bx, at0, ln, sc)).length)) hh wP_396 hwP_396) gL_law_X7_thrown rfl rfl rfl (by decide +kernel) B.1 ⟨Nat.le_of_ble_eq_true rfl, Nat.le_of_ble_eq_true rfl⟩ rfl rfl (Nat.le_of_ble_eq_true rfl) dL_law_402 ⟨(by show ((80 + i) + 0) + 0 ≤ 601024; omega), (by show ((6951 + 2 * i) + 0) + 0 ≤ 7293034; omega)⟩ [12] [0, 1, 2, 3, 4, 5, 6, 7, 8, 9, 10, 11, 13, 14, 15, 16, 17, 18, 19] (by decide : ([12] ++ ([0, 1, 2, 3, 4, 5, 6, 7, 8, 9, 10, 11, 13, 14, 15, 16, 17, 18, 19] : List Nat)).Perm (List.range 20)) rfl rfl 405 rfl (fun v0 R0 t0 ht0 hp0 => ?_)
      obtain ⟨rfl, rfl⟩ := hp0
      refine q_eqs (st' := [.int ((upd (upd fd 0 (nI 0)) 4 (nI (k_sav sv (bx, at0, ln, sc)).length)) 0)]) rfl ?_
      refine q_reord [1, 2, 3, 4, 5, 6, 7, 8, 9, 10, 11, 12, 0, 13, 14, 15, 16, 17, 18, 19] (by decide : ([1, 2, 3, 4, 5, 6, 7, 8, 9, 10, 11, 12, 0, 13, 14, 15, 16, 17, 18, 19] : List Nat).Perm (List.range 20)) (Rs' := [wX, wO_378, wA_378, wB_378, wL, wH_378, vO, vA, vB, vL, wT, wK, wP_396, wQ_396, wZ, wV_396, wN, wU, wD, [(o, .inl (cJ, 1, .inr (.inl (va_up g 0 (nI (k_wr (k_ex bx c c2))).toInt64))))]]) rfl rfl ?_
      refine q_eqs (st' := [.int (nI 0)]) (by rw [pk_un (by decide), pk_us]) ?_
      refine q_iload C dL_law_405 407 1 rfl rfl ?_
      refine q_icmp_eq C dL_law_407 410 412 rfl (by decide) (nI_eq (by omega) (by omega)) (fun h407 => ?_) (fun h407 => False.elim (by first | omega | simp_all))
      refine q_iload C dL_law_412 414 1 rfl rfl ?_
      refine q_if_ne C dL_law_414 417 429 rfl (by decide) (q_eq0 (by omega)) (fun h414 => False.elim (by first | omega | simp_all)) (fun h414 => ?_)
      refine q_aload_n C dL_law_417 418 3 rfl rfl ?_
      refine q_iconst (v := nI 0) C dL_law_418 419 rfl (by decide) ?_
      refine q_lald (k := 19) (j := 0) (v := (nI (k_wr (k_ex bx c c2))).toInt64) C dL_law_419 420 rfl rfl rfl hJ 0 rfl (by decide) (by decide) k_up_s ?_
      refine q_iload C dL_law_420 422 0 rfl rfl ?_
      refine q_i2l (v := ((nI (k_wr (k_ex bx c c2))) : Int32).toInt64) C dL_law_422 423 rfl rfl ?_
      refine q_lcmp C dL_law_423 424 rfl ?_
      refine q_if_eq C dL_law_424 427 429 rfl (by decide) Iff.rfl (fun h424 => ?_) (fun h424 => False.elim (h424 (lg_self _)))
      refine q_goto C dL_law_429 1304 (by decide) ?_
      refine q_sub (L' := [(4, .int (nI i)), (3, .ref o), (2, .ref y), (1, .ref x), (0, .ref b)]) [2, 3, 4, 5, 6] rfl ?_
      refine q_widen (k := 80 + i + 1) (n := 6951 + 2 * i + 6) (by omega) (by omega) ?_
      exact kk _ ⟨k_xch (bx, at0, ln, sc) c c2, (k_sav sv (bx, at0, ln, sc)), hsn, (sb, sa, sl, ss), (nb, na, nl, ns), tx, upd (upd fd 0 (nI 0)) 4 (nI (k_sav sv (bx, at0, ln, sc)).length), va_up g 0 (nI (k_wr (k_ex bx c c2))).toInt64, _, _, ⟨_, _, _, _, _, _, _, _, _, _, _, _, _, _, _, _, _, _, _, _, _, _, _, _, _, rX, ⟨hwO_378, hwA_378, hwB_378, rL⟩, hwH_378, ⟨gO, gA, gB, gL⟩, rT, rK, rfl⟩, ⟨_, _, _, _, _, _, _, (zb, za, zl, zs), _, _, _, _, _, _, _, _, _, hwP_396, hwQ_396, rZ, hwV_396, rN, rU, rD, rfl⟩, (k_Iv_xch hIv hc hc2), (k_Iv_sav hIs hIv), (by rw [pk_us]), (by rw [pk_un (by decide), pk_un (by decide)]; exact q8), (k_Sn_eq hsn6 (by rw [pk_un (by decide), pk_un (by decide)])), (k_sav_6' hl6), rfl⟩
      
    · refine q_aload_n C dL_law_364 365 3 rfl rfl ?_
      refine q_aload_n C dL_law_365 366 4 rfl rfl ?_
      refine q_iload C dL_law_366 368 0 rfl rfl ?_
      refine q_iconst (v := nI 1) C dL_law_368 369 rfl (by decide) ?_
      refine q_iadd (v := nI (i + 1)) C dL_law_369 370 rfl (q_nadd (by omega)) ?_
      refine q_sld (v := nI c) C hXb hbl hbA (i + 1) rfl (by omega) (by omega) hxv dL_law_370 371 rfl ?_
      refine q_aload_n C dL_law_371 372 4 rfl rfl ?_
      refine q_iload C dL_law_372 374 0 rfl rfl ?_
      refine q_iconst (v := nI 2) C dL_law_374 375 rfl (by decide) ?_
      refine q_iadd (v := nI (i + 2)) C dL_law_375 376 rfl (q_nadd (by omega)) ?_
      refine q_sld (v := v2) C hXb hbl hbA (i + 2) rfl (by omega) (by omega) hxv2 dL_law_376 377 rfl ?_
      refine q_aload_n C dL_law_377 378 1 rfl rfl ?_
      refine q_reord [0, 19, 1, 2, 3, 4, 5, 6, 7, 8, 9, 10, 11, 12, 13, 14, 15, 16, 17, 18] (by decide : ([0, 19, 1, 2, 3, 4, 5, 6, 7, 8, 9, 10, 11, 12, 13, 14, 15, 16, 17, 18] : List Nat).Perm (List.range 20)) (Rs' := [wX, [(o, .inl (cJ, 1, .inr (.inl g)))], wO, wA, wB, wL, wH, vO, vA, vB, vL, wT, wK, wP, wQ, wZ, wV, wN, wU, wD]) rfl rfl ?_
      refine q_resp (Rs' := [[wX].flatten, [(o, .inl (cJ, 1, .inr (.inl g)))], wO, wA, wB, wL, wH, vO, vA, vB, vL, wT, wK, wP, wQ, wZ, wV, wN, wU, wD]) (by simp) ?_
      refine q_callSW (n := 4) (As := [.ref x, .int (nI c), .int v2, .ref o]) (rest := []) (Rr := [wO, wA, wB, wL, wH, vO, vA, vB, vL, wT, wK, wP, wQ, wZ, wV, wN, wU, wD]) C (c_L_swap_x1 l hZ hJ hXs x o (nI c) v2 (q_hd (k_isX_recv rX)) (q_Xflat (List.append_nil _).symm (c_X6_swap_b l hZ hI hN hG hXs hlT x aO aY aN hsn aT aK wX rX c v2 (by omega) hv2)) (Nat.le_of_ble_eq_true rfl) (Nat.le_of_ble_eq_true rfl) rfl rfl g) gL_law_L_swap rfl rfl rfl (by decide +kernel) B.1 ⟨Nat.le_of_ble_eq_true rfl, Nat.le_of_ble_eq_true rfl⟩ rfl rfl (Nat.le_of_ble_eq_true rfl) dL_law_378 ⟨(by show (80 + i) + 1 ≤ 601024; omega), (by show (6951 + 2 * i) + 6 ≤ 7293034; omega)⟩ [0, 1] [2, 3, 4, 5, 6, 7, 8, 9, 10, 11, 12, 13, 14, 15, 16, 17, 18, 19] (by decide : ([0, 1] ++ ([2, 3, 4, 5, 6, 7, 8, 9, 10, 11, 12, 13, 14, 15, 16, 17, 18, 19] : List Nat)).Perm (List.range 20)) rfl rfl 381 rfl (fun v0 R0 t0 ht0 hp0 => ?_)
      obtain ⟨rfl, rfl⟩ := hp0
      refine q_eqs (st' := [.int (nI 1)]) rfl ?_
      refine q_resp (Rs' := [wX, [(o, .inl (cJ, 1, .inr (.inl g)))], wO, wA, wB, wL, wH, vO, vA, vB, vL, wT, wK, wP, wQ, wZ, wV, wN, wU, wD]) (by simp) ?_
      refine q_reord [0, 2, 3, 4, 5, 6, 7, 8, 9, 10, 11, 12, 13, 14, 15, 16, 17, 18, 19, 1] (by decide : ([0, 2, 3, 4, 5, 6, 7, 8, 9, 10, 11, 12, 13, 14, 15, 16, 17, 18, 19, 1] : List Nat).Perm (List.range 20)) (Rs' := [wX, wO, wA, wB, wL, wH, vO, vA, vB, vL, wT, wK, wP, wQ, wZ, wV, wN, wU, wD, [(o, .inl (cJ, 1, .inr (.inl g)))]]) rfl rfl ?_
      refine q_istore C dL_law_381 383 rfl [(5, .int (nI 1)), (4, .int (nI i)), (3, .ref o), (2, .ref y), (1, .ref x), (0, .ref b)] (by decide) rfl ?_
      refine q_aload_n C dL_law_383 384 3 rfl rfl ?_
      refine q_aload_n C dL_law_384 385 5 rfl rfl ?_
      refine q_iload C dL_law_385 387 1 rfl rfl ?_
      refine q_iconst (v := nI 1) C dL_law_387 388 rfl (by decide) ?_
      refine q_iadd (v := nI (i + 1)) C dL_law_388 389 rfl (q_nadd (by omega)) ?_
      refine q_sld (v := nI c) C hXb hbl hbA (i + 1) rfl (by omega) (by omega) hxv dL_law_389 390 rfl ?_
      refine q_aload_n C dL_law_390 391 5 rfl rfl ?_
      refine q_iload C dL_law_391 393 1 rfl rfl ?_
      refine q_iconst (v := nI 2) C dL_law_393 394 rfl (by decide) ?_
      refine q_iadd (v := nI (i + 2)) C dL_law_394 395 rfl (q_nadd (by omega)) ?_
      refine q_sld (v := v2) C hXb hbl hbA (i + 2) rfl (by omega) (by omega) hxv2 dL_law_395 396 rfl ?_
      refine q_callV (k := 12) (ci := 6) (n := 2) (rest := []) (Rr := [wX, wO, wA, wB, wL, wH, vO, vA, vB, vL, wT, wK, wQ, wZ, wV, wN, wU, wD, [(o, .inl (cJ, 1, .inr (.inl g)))]]) C rfl (k_isP_recv rP) rfl (c_X7_swap_b l hZ hI y mS mZ mV mN mU mD fd hh wP rP c v2 (by omega) (k_nb12 hv2)) gL_law_X7_swap rfl rfl rfl (by decide +kernel) B.1 ⟨Nat.le_of_ble_eq_true rfl, Nat.le_of_ble_eq_true rfl⟩ rfl rfl (Nat.le_of_ble_eq_true rfl) dL_law_396 ⟨(by show ((80 + i) + 1) + 0 ≤ 601024; omega), (by show ((6951 + 2 * i) + 6) + 0 ≤ 7293034; omega)⟩ [12] [0, 1, 2, 3, 4, 5, 6, 7, 8, 9, 10, 11, 13, 14, 15, 16, 17, 18, 19] (by decide : ([12] ++ ([0, 1, 2, 3, 4, 5, 6, 7, 8, 9, 10, 11, 13, 14, 15, 16, 17, 18, 19] : List Nat)).Perm (List.range 20)) rfl rfl 399 rfl (fun v0 R0 t0 ht0 hp0 => ?_)
      obtain ⟨rfl, w_396, hw_396, rfl⟩ := hp0
      refine q_eqs (st' := [.int (nI 0)]) rfl ?_
      refine q_reord [1, 2, 3, 4, 5, 6, 7, 8, 9, 10, 11, 12, 0, 13, 14, 15, 16, 17, 18, 19] (by decide : ([1, 2, 3, 4, 5, 6, 7, 8, 9, 10, 11, 12, 0, 13, 14, 15, 16, 17, 18, 19] : List Nat).Perm (List.range 20)) (Rs' := [wX, wO, wA, wB, wL, wH, vO, vA, vB, vL, wT, wK, w_396, wQ, wZ, wV, wN, wU, wD, [(o, .inl (cJ, 1, .inr (.inl g)))]]) rfl rfl ?_
      refine q_istore C dL_law_399 401 rfl [(6, .int (nI 0)), (5, .int (nI 1)), (4, .int (nI i)), (3, .ref o), (2, .ref y), (1, .ref x), (0, .ref b)] (by decide) rfl ?_
      refine q_aload_n C dL_law_401 402 4 rfl rfl ?_
      refine q_callV (k := 12) (ci := 6) (n := 0) (rest := []) (Rr := [wX, wO, wA, wB, wL, wH, vO, vA, vB, vL, wT, wK, wQ, wZ, wV, wN, wU, wD, [(o, .inl (cJ, 1, .inr (.inl g)))]]) C rfl (k_isP_recv hw_396) rfl (c_X7_thrown l hZ hI y mS mZ mV mN mU mD (upd (upd fd 0 (nI 0)) 0 (nI 1)) hh w_396 hw_396) gL_law_X7_thrown rfl rfl rfl (by decide +kernel) B.1 ⟨Nat.le_of_ble_eq_true rfl, Nat.le_of_ble_eq_true rfl⟩ rfl rfl (Nat.le_of_ble_eq_true rfl) dL_law_402 ⟨(by show ((80 + i) + 1) + 0 ≤ 601024; omega), (by show ((6951 + 2 * i) + 6) + 0 ≤ 7293034; omega)⟩ [12] [0, 1, 2, 3, 4, 5, 6, 7, 8, 9, 10, 11, 13, 14, 15, 16, 17, 18, 19] (by decide : ([12] ++ ([0, 1, 2, 3, 4, 5, 6, 7, 8, 9, 10, 11, 13, 14, 15, 16, 17, 18, 19] : List Nat)).Perm (List.range 20)) rfl rfl 405 rfl (fun v0 R0 t0 ht0 hp0 => ?_)
      obtain ⟨rfl, rfl⟩ := hp0
      refine q_eqs (st' := [.int ((upd (upd fd 0 (nI 0)) 0 (nI 1)) 0)]) rfl ?_
      refine q_reord [1, 2, 3, 4, 5, 6, 7, 8, 9, 10, 11, 12, 0, 13, 14, 15, 16, 17, 18, 19] (by decide : ([1, 2, 3, 4, 5, 6, 7, 8, 9, 10, 11, 12, 0, 13, 14, 15, 16, 17, 18, 19] : List Nat).Perm (List.range 20)) (Rs' := [wX, wO, wA, wB, wL, wH, vO, vA, vB, vL, wT, wK, w_396, wQ, wZ, wV, wN, wU, wD, [(o, .inl (cJ, 1, .inr (.inl g)))]]) rfl rfl ?_
      refine q_eqs (st' := [.int (nI 1)]) (by rw [pk_us]) ?_
      refine q_iload C dL_law_405 407 1 rfl rfl ?_
      refine q_icmp_eq C dL_law_407 410 412 rfl (by decide) (nI_eq (by omega) (by omega)) (fun h407 => ?_) (fun h407 => False.elim (by first | omega | simp_all))
      refine q_iload C dL_law_412 414 1 rfl rfl ?_
      refine q_if_ne C dL_law_414 417 429 rfl (by decide) (q_eq0 (by omega)) (fun h414 => ?_) (fun h414 => False.elim (by first | omega | simp_all))
      refine q_goto C dL_law_429 1304 (by decide) ?_
      refine q_sub (L' := [(4, .int (nI i)), (3, .ref o), (2, .ref y), (1, .ref x), (0, .ref b)]) [2, 3, 4, 5, 6] rfl ?_
      refine q_widen (k := 80 + i + 1) (n := 6951 + 2 * i + 6) (by omega) (by omega) ?_
      exact kk _ ⟨(bx, at0, ln, sc), sv, hsn, (sb, sa, sl, ss), (nb, na, nl, ns), tx, upd (upd fd 0 (nI 0)) 0 (nI 1), g, _, _, ⟨_, _, _, _, _, _, _, _, _, _, _, _, _, _, _, _, _, _, _, _, _, _, _, _, _, rX, ⟨rO, rA, rB, rL⟩, rH, ⟨gO, gA, gB, gL⟩, rT, rK, rfl⟩, ⟨_, _, _, _, _, _, _, (zb, za, zl, zs), _, _, _, _, _, _, _, _, _, hw_396, rQ, rZ, rV, rN, rU, rD, rfl⟩, hIv, hIs, (by rw [pk_un (by decide), pk_un (by decide)]; exact q4), (by rw [pk_un (by decide), pk_un (by decide)]; exact q8), (k_Sn_eq hsn6 (by rw [pk_un (by decide), pk_un (by decide)])), hl6, rfl⟩
      
  · refine q_aload_n C dL_law_364 365 3 rfl rfl ?_
    refine q_aload_n C dL_law_365 366 4 rfl rfl ?_
    refine q_iload C dL_law_366 368 0 rfl rfl ?_
    refine q_iconst (v := nI 1) C dL_law_368 369 rfl (by decide) ?_
    refine q_iadd (v := nI (i + 1)) C dL_law_369 370 rfl (q_nadd (by omega)) ?_
    refine q_sld (v := v) C hXb hbl hbA (i + 1) rfl (by omega) (by omega) hxv dL_law_370 371 rfl ?_
    refine q_aload_n C dL_law_371 372 4 rfl rfl ?_
    refine q_iload C dL_law_372 374 0 rfl rfl ?_
    refine q_iconst (v := nI 2) C dL_law_374 375 rfl (by decide) ?_
    refine q_iadd (v := nI (i + 2)) C dL_law_375 376 rfl (q_nadd (by omega)) ?_
    refine q_sld (v := v2) C hXb hbl hbA (i + 2) rfl (by omega) (by omega) hxv2 dL_law_376 377 rfl ?_
    refine q_aload_n C dL_law_377 378 1 rfl rfl ?_
    refine q_reord [0, 19, 1, 2, 3, 4, 5, 6, 7, 8, 9, 10, 11, 12, 13, 14, 15, 16, 17, 18] (by decide : ([0, 19, 1, 2, 3, 4, 5, 6, 7, 8, 9, 10, 11, 12, 13, 14, 15, 16, 17, 18] : List Nat).Perm (List.range 20)) (Rs' := [wX, [(o, .inl (cJ, 1, .inr (.inl g)))], wO, wA, wB, wL, wH, vO, vA, vB, vL, wT, wK, wP, wQ, wZ, wV, wN, wU, wD]) rfl rfl ?_
    refine q_resp (Rs' := [[wX].flatten, [(o, .inl (cJ, 1, .inr (.inl g)))], wO, wA, wB, wL, wH, vO, vA, vB, vL, wT, wK, wP, wQ, wZ, wV, wN, wU, wD]) (by simp) ?_
    refine q_callSW (n := 4) (As := [.ref x, .int v, .int v2, .ref o]) (rest := []) (Rr := [wO, wA, wB, wL, wH, vO, vA, vB, vL, wT, wK, wP, wQ, wZ, wV, wN, wU, wD]) C (c_L_swap_x1 l hZ hJ hXs x o v v2 (q_hd (k_isX_recv rX)) (q_Xflat (List.append_nil _).symm (c_X6_swap_a l hZ hI hN hG hXs hlT x aO aY aN hsn aT aK wX rX v v2 hv)) (Nat.le_of_ble_eq_true rfl) (Nat.le_of_ble_eq_true rfl) rfl rfl g) gL_law_L_swap rfl rfl rfl (by decide +kernel) B.1 ⟨Nat.le_of_ble_eq_true rfl, Nat.le_of_ble_eq_true rfl⟩ rfl rfl (Nat.le_of_ble_eq_true rfl) dL_law_378 ⟨(by show (80 + i) + 1 ≤ 601024; omega), (by show (6951 + 2 * i) + 6 ≤ 7293034; omega)⟩ [0, 1] [2, 3, 4, 5, 6, 7, 8, 9, 10, 11, 12, 13, 14, 15, 16, 17, 18, 19] (by decide : ([0, 1] ++ ([2, 3, 4, 5, 6, 7, 8, 9, 10, 11, 12, 13, 14, 15, 16, 17, 18, 19] : List Nat)).Perm (List.range 20)) rfl rfl 381 rfl (fun v0 R0 t0 ht0 hp0 => ?_)
    obtain ⟨rfl, rfl⟩ := hp0
    refine q_eqs (st' := [.int (nI 1)]) rfl ?_
    refine q_resp (Rs' := [wX, [(o, .inl (cJ, 1, .inr (.inl g)))], wO, wA, wB, wL, wH, vO, vA, vB, vL, wT, wK, wP, wQ, wZ, wV, wN, wU, wD]) (by simp) ?_
    refine q_reord [0, 2, 3, 4, 5, 6, 7, 8, 9, 10, 11, 12, 13, 14, 15, 16, 17, 18, 19, 1] (by decide : ([0, 2, 3, 4, 5, 6, 7, 8, 9, 10, 11, 12, 13, 14, 15, 16, 17, 18, 19, 1] : List Nat).Perm (List.range 20)) (Rs' := [wX, wO, wA, wB, wL, wH, vO, vA, vB, vL, wT, wK, wP, wQ, wZ, wV, wN, wU, wD, [(o, .inl (cJ, 1, .inr (.inl g)))]]) rfl rfl ?_
    refine q_istore C dL_law_381 383 rfl [(5, .int (nI 1)), (4, .int (nI i)), (3, .ref o), (2, .ref y), (1, .ref x), (0, .ref b)] (by decide) rfl ?_
    refine q_aload_n C dL_law_383 384 3 rfl rfl ?_
    refine q_aload_n C dL_law_384 385 5 rfl rfl ?_
    refine q_iload C dL_law_385 387 1 rfl rfl ?_
    refine q_iconst (v := nI 1) C dL_law_387 388 rfl (by decide) ?_
    refine q_iadd (v := nI (i + 1)) C dL_law_388 389 rfl (q_nadd (by omega)) ?_
    refine q_sld (v := v) C hXb hbl hbA (i + 1) rfl (by omega) (by omega) hxv dL_law_389 390 rfl ?_
    refine q_aload_n C dL_law_390 391 5 rfl rfl ?_
    refine q_iload C dL_law_391 393 1 rfl rfl ?_
    refine q_iconst (v := nI 2) C dL_law_393 394 rfl (by decide) ?_
    refine q_iadd (v := nI (i + 2)) C dL_law_394 395 rfl (q_nadd (by omega)) ?_
    refine q_sld (v := v2) C hXb hbl hbA (i + 2) rfl (by omega) (by omega) hxv2 dL_law_395 396 rfl ?_
    refine q_callV (k := 12) (ci := 6) (n := 2) (rest := []) (Rr := [wX, wO, wA, wB, wL, wH, vO, vA, vB, vL, wT, wK, wQ, wZ, wV, wN, wU, wD, [(o, .inl (cJ, 1, .inr (.inl g)))]]) C rfl (k_isP_recv rP) rfl (c_X7_swap_a l hZ hI y mS mZ mV mN mU mD fd hh wP rP v v2 (k_nb12 hv)) gL_law_X7_swap rfl rfl rfl (by decide +kernel) B.1 ⟨Nat.le_of_ble_eq_true rfl, Nat.le_of_ble_eq_true rfl⟩ rfl rfl (Nat.le_of_ble_eq_true rfl) dL_law_396 ⟨(by show ((80 + i) + 1) + 0 ≤ 601024; omega), (by show ((6951 + 2 * i) + 6) + 0 ≤ 7293034; omega)⟩ [12] [0, 1, 2, 3, 4, 5, 6, 7, 8, 9, 10, 11, 13, 14, 15, 16, 17, 18, 19] (by decide : ([12] ++ ([0, 1, 2, 3, 4, 5, 6, 7, 8, 9, 10, 11, 13, 14, 15, 16, 17, 18, 19] : List Nat)).Perm (List.range 20)) rfl rfl 399 rfl (fun v0 R0 t0 ht0 hp0 => ?_)
    obtain ⟨rfl, w_396, hw_396, rfl⟩ := hp0
    refine q_eqs (st' := [.int (nI 0)]) rfl ?_
    refine q_reord [1, 2, 3, 4, 5, 6, 7, 8, 9, 10, 11, 12, 0, 13, 14, 15, 16, 17, 18, 19] (by decide : ([1, 2, 3, 4, 5, 6, 7, 8, 9, 10, 11, 12, 0, 13, 14, 15, 16, 17, 18, 19] : List Nat).Perm (List.range 20)) (Rs' := [wX, wO, wA, wB, wL, wH, vO, vA, vB, vL, wT, wK, w_396, wQ, wZ, wV, wN, wU, wD, [(o, .inl (cJ, 1, .inr (.inl g)))]]) rfl rfl ?_
    refine q_istore C dL_law_399 401 rfl [(6, .int (nI 0)), (5, .int (nI 1)), (4, .int (nI i)), (3, .ref o), (2, .ref y), (1, .ref x), (0, .ref b)] (by decide) rfl ?_
    refine q_aload_n C dL_law_401 402 4 rfl rfl ?_
    refine q_callV (k := 12) (ci := 6) (n := 0) (rest := []) (Rr := [wX, wO, wA, wB, wL, wH, vO, vA, vB, vL, wT, wK, wQ, wZ, wV, wN, wU, wD, [(o, .inl (cJ, 1, .inr (.inl g)))]]) C rfl (k_isP_recv hw_396) rfl (c_X7_thrown l hZ hI y mS mZ mV mN mU mD (upd (upd fd 0 (nI 0)) 0 (nI 1)) hh w_396 hw_396) gL_law_X7_thrown rfl rfl rfl (by decide +kernel) B.1 ⟨Nat.le_of_ble_eq_true rfl, Nat.le_of_ble_eq_true rfl⟩ rfl rfl (Nat.le_of_ble_eq_true rfl) dL_law_402 ⟨(by show ((80 + i) + 1) + 0 ≤ 601024; omega), (by show ((6951 + 2 * i) + 6) + 0 ≤ 7293034; omega)⟩ [12] [0, 1, 2, 3, 4, 5, 6, 7, 8, 9, 10, 11, 13, 14, 15, 16, 17, 18, 19] (by decide : ([12] ++ ([0, 1, 2, 3, 4, 5, 6, 7, 8, 9, 10, 11, 13, 14, 15, 16, 17, 18, 19] : List Nat)).Perm (List.range 20)) rfl rfl 405 rfl (fun v0 R0 t0 ht0 hp0 => ?_)
    obtain ⟨rfl, rfl⟩ := hp0
    refine q_eqs (st' := [.int ((upd (upd fd 0 (nI 0)) 0 (nI 1)) 0)]) rfl ?_
    refine q_reord [1, 2, 3, 4, 5, 6, 7, 8, 9, 10, 11, 12, 0, 13, 14, 15, 16, 17, 18, 19] (by decide : ([1, 2, 3, 4, 5, 6, 7, 8, 9, 10, 11, 12, 0, 13, 14, 15, 16, 17, 18, 19] : List Nat).Perm (List.range 20)) (Rs' := [wX, wO, wA, wB, wL, wH, vO, vA, vB, vL, wT, wK, w_396, wQ, wZ, wV, wN, wU, wD, [(o, .inl (cJ, 1, .inr (.inl g)))]]) rfl rfl ?_
    refine q_eqs (st' := [.int (nI 1)]) (by rw [pk_us]) ?_
    refine q_iload C dL_law_405 407 1 rfl rfl ?_
    refine q_icmp_eq C dL_law_407 410 412 rfl (by decide) (nI_eq (by omega) (by omega)) (fun h407 => ?_) (fun h407 => False.elim (by first | omega | simp_all))
    refine q_iload C dL_law_412 414 1 rfl rfl ?_
    refine q_if_ne C dL_law_414 417 429 rfl (by decide) (q_eq0 (by omega)) (fun h414 => ?_) (fun h414 => False.elim (by first | omega | simp_all))
    refine q_goto C dL_law_429 1304 (by decide) ?_
    refine q_sub (L' := [(4, .int (nI i)), (3, .ref o), (2, .ref y), (1, .ref x), (0, .ref b)]) [2, 3, 4, 5, 6] rfl ?_
    refine q_widen (k := 80 + i + 1) (n := 6951 + 2 * i + 6) (by omega) (by omega) ?_
    exact kk _ ⟨(bx, at0, ln, sc), sv, hsn, (sb, sa, sl, ss), (nb, na, nl, ns), tx, upd (upd fd 0 (nI 0)) 0 (nI 1), g, _, _, ⟨_, _, _, _, _, _, _, _, _, _, _, _, _, _, _, _, _, _, _, _, _, _, _, _, _, rX, ⟨rO, rA, rB, rL⟩, rH, ⟨gO, gA, gB, gL⟩, rT, rK, rfl⟩, ⟨_, _, _, _, _, _, _, (zb, za, zl, zs), _, _, _, _, _, _, _, _, _, hw_396, rQ, rZ, rV, rN, rU, rD, rfl⟩, hIv, hIs, (by rw [pk_un (by decide), pk_un (by decide)]; exact q4), (by rw [pk_un (by decide), pk_un (by decide)]; exact q8), (k_Sn_eq hsn6 (by rw [pk_un (by decide), pk_un (by decide)])), hl6, rfl⟩
    

set_option maxHeartbeats 1000000 in
set_option maxRecDepth 100000 in
theorem law_c5 {p9 : Program} {l : Launch} {e9 : Env} {R : Room} {s9 : State} {m9 : MethodId} {args : Array Value} {below : List Frame} {meth : Method} {c9 : Code} {Q : State → Prop} {D : va_G} {tys : List (ClassId × FieldType)} {A : Nat → Prop} {Z : (Nat → Prop) → State → Heap → Prop} {b LL : Nat} {xs : Nat → Int32} {x y o i : Nat} {Rs : List va_W} (C : q_C p9 s9 m9 args c9 cL_law 9 wsL_law RL D tys Z A) (hZ : q_St Z) {cI cG cJ : ClassId} (hI : tys[0]? = some (cI, .int)) (hG : tys[1]? = some (cG, .object "SortCases$State")) (hJ : tys[2]? = some (cJ, .long)) (hN : q_Ns Z) {ad aw av : Nat → Nat} {tK : Nat} (hKs : q_Ks Z ad aw av tK) {tL tH : Nat} (hVs : q_Vs Z tL tH) (hXs : q_Xs Z) (hlT : l.stackTraces = false) (hXb : va_X b LL xs s9 s9.heap) (hbl : b < s9.heap.size) (hbA : ¬ A b) (hR : R = ({ frames := 12, cells := 601024, slots := 7293034, locals := 454 } : Room)) (hi : i + 3 ≤ LL) (hL : LL ≤ 1536) (hRs : law_I cG cI cJ x y o Rs) (kk : ∀ Rs', law_I cG cI cJ x y o Rs' → q_V p9 l e9 R s9 m9 args below meth c9 D A 9 Q (80 + i + 1) (6951 + 2 * i + 6) 1304 [(4, .int (nI i)), (3, .ref o), (2, .ref y), (1, .ref x), (0, .ref b)] [] Rs') : q_V p9 l e9 R s9 m9 args below meth c9 D A 9 Q (80 + i) (6951 + 2 * i) 432 [(4, .int (nI i)), (3, .ref o), (2, .ref y), (1, .ref x), (0, .ref b)] [] Rs := by
  have hcI := hI
  have hcG := hG
  have B : R = ({ frames := 12, cells := 601024, slots := 7293034, locals := 454 } : Room) ∧ True := ⟨hR, trivial⟩
  have hts := C.2.2.2.2.1
  obtain ⟨⟨bx, at0, ln, sc⟩, sv, hsn, ⟨sb, sa, sl, ss⟩, ⟨nb, na, nl, ns⟩, tx, fd, g, R1, R2, ⟨aO, aY, aN, aT, aK, aB, aL, aS, naB, naL, naS, kb, ka, wX, wO, wA, wB, wL, wH, vO, vA, vB, vL, wT, wK, rX, ⟨rO, rA, rB, rL⟩, rH, ⟨gO, gA, gB, gL⟩, rT, rK, rfl⟩, ⟨mS, mZ, mV, mN, mU, mD, hh, ⟨zb, za, zl, zs⟩, dx, ps, wP, wQ, wZ, wV, wN, wU, wD, rP, rQ, rZ, rV, rN, rU, rD, rfl⟩, hIv, hIs, q4, q8, hsn6, hl6, rfl⟩ := hRs
  have rO : k_isO cI aO aB aL aS sc wO := rO
  have rA : k_isA cI aS sc wA := rA
  have rB : k_isB cI aB bx at0 wB := rB
  have rL : k_isL cI aL ln wL := rL
  have gO : k_isO cI aN naB naL naS ss vO := gO
  have gA : k_isA cI naS ss vA := gA
  have gB : k_isB cI naB sb sa vB := gB
  have gL : k_isL cI naL sl vL := gL
  have rQ : k_isQ cI mS bx at0 ln sc wQ := rQ
  have rZ : k_isQ cI mZ zb za zl zs wZ := rZ
  have rN : k_isQ cI mN nb na nl ns wN := rN
  have hll : ln.length ≤ 40 := rL.1.1
  have htl : tx.length ≤ 60 := rT.1.1
  obtain ⟨v, hxv⟩ : ∃ v, xs (i + 1) = v := ⟨_, rfl⟩
  obtain ⟨v2, hxv2⟩ : ∃ v2, xs (i + 2) = v2 := ⟨_, rfl⟩
  refine q_eqR (Rs' := [wX, wO, wA, wB, wL, wH, vO, vA, vB, vL, wT, wK, wP, wQ, wZ, wV, wN, wU, wD, [(o, .inl (cJ, 1, .inr (.inl g)))]]) rfl ?_
  by_cases hv : nI 0 ≤ v ∧ v ≤ nI 2
  · obtain ⟨c, hc, rfl⟩ := k_exr hv (by decide) (by decide)
    by_cases hg : k_lo c ≤ v2 ∧ v2 ≤ k_hi c
    · refine q_aload_n C dL_law_432 433 3 rfl rfl ?_
      refine q_aload_n C dL_law_433 434 4 rfl rfl ?_
      refine q_iload C dL_law_434 436 0 rfl rfl ?_
      refine q_iconst (v := nI 1) C dL_law_436 437 rfl (by decide) ?_
      refine q_iadd (v := nI (i + 1)) C dL_law_437 438 rfl (q_nadd (by omega)) ?_
      refine q_sld (v := nI c) C hXb hbl hbA (i + 1) rfl (by omega) (by omega) hxv dL_law_438 439 rfl ?_
      refine q_aload_n C dL_law_439 440 4 rfl rfl ?_
      refine q_iload C dL_law_440 442 0 rfl rfl ?_
      refine q_iconst (v := nI 2) C dL_law_442 443 rfl (by decide) ?_
      refine q_iadd (v := nI (i + 2)) C dL_law_443 444 rfl (q_nadd (by omega)) ?_
      refine q_sld (v := v2) C hXb hbl hbA (i + 2) rfl (by omega) (by omega) hxv2 dL_law_444 445 rfl ?_
      refine q_aload_n C dL_law_445 446 1 rfl rfl ?_
      refine q_reord [0, 1, 2, 3, 4, 5, 19, 6, 7, 8, 9, 10, 11, 12, 13, 14, 15, 16, 17, 18] (by decide : ([0, 1, 2, 3, 4, 5, 19, 6, 7, 8, 9, 10, 11, 12, 13, 14, 15, 16, 17, 18] : List Nat).Perm (List.range 20)) (Rs' := [wX, wO, wA, wB, wL, wH, [(o, .inl (cJ, 1, .inr (.inl g)))], vO, vA, vB, vL, wT, wK, wP, wQ, wZ, wV, wN, wU, wD]) rfl rfl ?_
      refine q_resp (Rs' := [[wX, wO, wA, wB, wL, wH].flatten, [(o, .inl (cJ, 1, .inr (.inl g)))], vO, vA, vB, vL, wT, wK, wP, wQ, wZ, wV, wN, wU, wD]) (by simp) ?_
      refine q_callSW (n := 4) (As := [.ref x, .int (nI c), .int v2, .ref o]) (rest := []) (Rr := [vO, vA, vB, vL, wT, wK, wP, wQ, wZ, wV, wN, wU, wD]) C (c_L_change_ok l hZ hJ x o (nI c) v2 (r := sc c) (q_hd (k_isX_recv rX)) (q_Cflat (List.append_nil _).symm (c_X6_change_c l hZ hI hG hVs x aO aY aN hsn aT aK wX rX aB aL aS sc wO rO wA rA bx at0 wB rB ln wL rL sv wH rH c v2 (by omega) hg)) (Nat.le_of_ble_eq_true rfl) (Nat.le_of_ble_eq_true rfl) rfl rfl (fun _ _ _ h => h.1) g) gL_law_L_change rfl rfl rfl (by decide +kernel) B.1 ⟨Nat.le_of_ble_eq_true rfl, Nat.le_of_ble_eq_true rfl⟩ rfl rfl (Nat.le_of_ble_eq_true rfl) dL_law_446 ⟨(by show (80 + i) + 0 ≤ 601024; omega), (by show (6951 + 2 * i) + 0 ≤ 7293034; omega)⟩ [0, 1] [2, 3, 4, 5, 6, 7, 8, 9, 10, 11, 12, 13, 14] (by decide : ([0, 1] ++ ([2, 3, 4, 5, 6, 7, 8, 9, 10, 11, 12, 13, 14] : List Nat)).Perm (List.range 15)) rfl rfl 449 rfl (fun v0 R0 t0 ht0 hp0 => ?_)
      obtain ⟨rfl, R1, t1, ⟨-, wO_446, hwO_446, wA_446, hwA_446, wH_446, hwH_446, rfl⟩, rfl⟩ := hp0
      refine q_eqs (st' := [.int (nI 0)]) rfl ?_
      refine q_resp (Rs' := [wX, wO_446, wA_446, wB, wL, wH_446, [(o, .inl (cJ, 1, .inr (.inl (va_up g 0 (sc c).toInt64))))], vO, vA, vB, vL, wT, wK, wP, wQ, wZ, wV, wN, wU, wD]) (by simp) ?_
      refine q_reord [0, 1, 2, 3, 4, 5, 7, 8, 9, 10, 11, 12, 13, 14, 15, 16, 17, 18, 19, 6] (by decide : ([0, 1, 2, 3, 4, 5, 7, 8, 9, 10, 11, 12, 13, 14, 15, 16, 17, 18, 19, 6] : List Nat).Perm (List.range 20)) (Rs' := [wX, wO_446, wA_446, wB, wL, wH_446, vO, vA, vB, vL, wT, wK, wP, wQ, wZ, wV, wN, wU, wD, [(o, .inl (cJ, 1, .inr (.inl (va_up g 0 (sc c).toInt64))))]]) rfl rfl ?_
      refine q_istore C dL_law_449 451 rfl [(5, .int (nI 0)), (4, .int (nI i)), (3, .ref o), (2, .ref y), (1, .ref x), (0, .ref b)] (by decide) rfl ?_
      refine q_aload_n C dL_law_451 452 3 rfl rfl ?_
      refine q_aload_n C dL_law_452 453 5 rfl rfl ?_
      refine q_iload C dL_law_453 455 1 rfl rfl ?_
      refine q_iconst (v := nI 1) C dL_law_455 456 rfl (by decide) ?_
      refine q_iadd (v := nI (i + 1)) C dL_law_456 457 rfl (q_nadd (by omega)) ?_
      refine q_sld (v := nI c) C hXb hbl hbA (i + 1) rfl (by omega) (by omega) hxv dL_law_457 458 rfl ?_
      refine q_aload_n C dL_law_458 459 5 rfl rfl ?_
      refine q_iload C dL_law_459 461 1 rfl rfl ?_
      refine q_iconst (v := nI 2) C dL_law_461 462 rfl (by decide) ?_
      refine q_iadd (v := nI (i + 2)) C dL_law_462 463 rfl (q_nadd (by omega)) ?_
      refine q_sld (v := v2) C hXb hbl hbA (i + 2) rfl (by omega) (by omega) hxv2 dL_law_463 464 rfl ?_
      refine q_callV (k := 12) (ci := 6) (n := 2) (rest := []) (Rr := [wX, wO_446, wA_446, wB, wL, wH_446, vO, vA, vB, vL, wT, wK, wZ, wN, wU, wD, [(o, .inl (cJ, 1, .inr (.inl (va_up g 0 (sc c).toInt64))))]]) C rfl (k_isP_recv rP) rfl (c_X7_change_c l hZ hI y mS mZ mV mN mU mD fd hh wP rP bx at0 ln sc wQ rQ sv wV rV c v2 (by omega) hg q4) gL_law_X7_change rfl rfl rfl (by decide +kernel) B.1 ⟨Nat.le_of_ble_eq_true rfl, Nat.le_of_ble_eq_true rfl⟩ rfl rfl (Nat.le_of_ble_eq_true rfl) dL_law_464 ⟨(by show ((80 + i) + 0) + 0 ≤ 601024; omega), (by show ((6951 + 2 * i) + 0) + 0 ≤ 7293034; omega)⟩ [12, 13, 15] [0, 1, 2, 3, 4, 5, 6, 7, 8, 9, 10, 11, 14, 16, 17, 18, 19] (by decide : ([12, 13, 15] ++ ([0, 1, 2, 3, 4, 5, 6, 7, 8, 9, 10, 11, 14, 16, 17, 18, 19] : List Nat)).Perm (List.range 20)) rfl rfl 467 rfl (fun v0 R0 t0 ht0 hp0 => ?_)
      obtain ⟨rfl, wP_464, hwP_464, wQ_464, hwQ_464, wV_464, hwV_464, rfl⟩ := hp0
      refine q_eqs (st' := [.int (sc c)]) rfl ?_
      refine q_reord [3, 4, 5, 6, 7, 8, 9, 10, 11, 12, 13, 14, 0, 1, 15, 2, 16, 17, 18, 19] (by decide : ([3, 4, 5, 6, 7, 8, 9, 10, 11, 12, 13, 14, 0, 1, 15, 2, 16, 17, 18, 19] : List Nat).Perm (List.range 20)) (Rs' := [wX, wO_446, wA_446, wB, wL, wH_446, vO, vA, vB, vL, wT, wK, wP_464, wQ_464, wZ, wV_464, wN, wU, wD, [(o, .inl (cJ, 1, .inr (.inl (va_up g 0 (sc c).toInt64))))]]) rfl rfl ?_
      refine q_istore C dL_law_467 469 rfl [(6, .int (sc c)), (5, .int (nI 0)), (4, .int (nI i)), (3, .ref o), (2, .ref y), (1, .ref x), (0, .ref b)] (by decide) rfl ?_
      refine q_aload_n C dL_law_469 470 4 rfl rfl ?_
      refine q_callV (k := 12) (ci := 6) (n := 0) (rest := []) (Rr := [wX, wO_446, wA_446, wB, wL, wH_446, vO, vA, vB, vL, wT, wK, wQ_464, wZ, wV_464, wN, wU, wD, [(o, .inl (cJ, 1, .inr (.inl (va_up g 0 (sc c).toInt64))))]]) C rfl (k_isP_recv hwP_464) rfl (c_X7_thrown l hZ hI y mS mZ mV mN mU mD (upd (upd fd 0 (nI 0)) 4 (nI (k_sav sv (bx, at0, ln, sc)).length)) hh wP_464 hwP_464) gL_law_X7_thrown rfl rfl rfl (by decide +kernel) B.1 ⟨Nat.le_of_ble_eq_true rfl, Nat.le_of_ble_eq_true rfl⟩ rfl rfl (Nat.le_of_ble_eq_true rfl) dL_law_470 ⟨(by show ((80 + i) + 0) + 0 ≤ 601024; omega), (by show ((6951 + 2 * i) + 0) + 0 ≤ 7293034; omega)⟩ [12] [0, 1, 2, 3, 4, 5, 6, 7, 8, 9, 10, 11, 13, 14, 15, 16, 17, 18, 19] (by decide : ([12] ++ ([0, 1, 2, 3, 4, 5, 6, 7, 8, 9, 10, 11, 13, 14, 15, 16, 17, 18, 19] : List Nat)).Perm (List.range 20)) rfl rfl 473 rfl (fun v0 R0 t0 ht0 hp0 => ?_)
      obtain ⟨rfl, rfl⟩ := hp0
      refine q_eqs (st' := [.int ((upd (upd fd 0 (nI 0)) 4 (nI (k_sav sv (bx, at0, ln, sc)).length)) 0)]) rfl ?_
      refine q_reord [1, 2, 3, 4, 5, 6, 7, 8, 9, 10, 11, 12, 0, 13, 14, 15, 16, 17, 18, 19] (by decide : ([1, 2, 3, 4, 5, 6, 7, 8, 9, 10, 11, 12, 0, 13, 14, 15, 16, 17, 18, 19] : List Nat).Perm (List.range 20)) (Rs' := [wX, wO_446, wA_446, wB, wL, wH_446, vO, vA, vB, vL, wT, wK, wP_464, wQ_464, wZ, wV_464, wN, wU, wD, [(o, .inl (cJ, 1, .inr (.inl (va_up g 0 (sc c).toInt64))))]]) rfl rfl ?_
      refine q_eqs (st' := [.int (nI 0)]) (by rw [pk_un (by decide), pk_us]) ?_
      refine q_iload C dL_law_473 475 1 rfl rfl ?_
      refine q_icmp_eq C dL_law_475 478 480 rfl (by decide) (nI_eq (by omega) (by omega)) (fun h475 => ?_) (fun h475 => False.elim (by first | omega | simp_all))
      refine q_iload C dL_law_480 482 1 rfl rfl ?_
      refine q_if_ne C dL_law_482 485 497 rfl (by decide) (q_eq0 (by omega)) (fun h482 => False.elim (by first | omega | simp_all)) (fun h482 => ?_)
      refine q_aload_n C dL_law_485 486 3 rfl rfl ?_
      refine q_iconst (v := nI 0) C dL_law_486 487 rfl (by decide) ?_
      refine q_lald (k := 19) (j := 0) (v := (sc c).toInt64) C dL_law_487 488 rfl rfl rfl hJ 0 rfl (by decide) (by decide) k_up_s ?_
      refine q_iload C dL_law_488 490 0 rfl rfl ?_
      refine q_i2l (v := ((sc c) : Int32).toInt64) C dL_law_490 491 rfl rfl ?_
      refine q_lcmp C dL_law_491 492 rfl ?_
      refine q_if_eq C dL_law_492 495 497 rfl (by decide) Iff.rfl (fun h492 => ?_) (fun h492 => False.elim (h492 (lg_self _)))
      refine q_goto C dL_law_497 1304 (by decide) ?_
      refine q_sub (L' := [(4, .int (nI i)), (3, .ref o), (2, .ref y), (1, .ref x), (0, .ref b)]) [2, 3, 4, 5, 6] rfl ?_
      refine q_widen (k := 80 + i + 1) (n := 6951 + 2 * i + 6) (by omega) (by omega) ?_
      exact kk _ ⟨(bx, at0, ln, upd (upd sc 3 (-1)) c v2), (k_sav sv (bx, at0, ln, sc)), hsn, (sb, sa, sl, ss), (nb, na, nl, ns), tx, upd (upd fd 0 (nI 0)) 4 (nI (k_sav sv (bx, at0, ln, sc)).length), va_up g 0 (sc c).toInt64, _, _, ⟨_, _, _, _, _, _, _, _, _, _, _, _, _, _, _, _, _, _, _, _, _, _, _, _, _, rX, ⟨hwO_446, hwA_446, rB, rL⟩, hwH_446, ⟨gO, gA, gB, gL⟩, rT, rK, rfl⟩, ⟨_, _, _, _, _, _, _, (zb, za, zl, zs), _, _, _, _, _, _, _, _, _, hwP_464, (by rw [← k_upd_comm (show c ≠ 3 by omega)]; exact hwQ_464), rZ, hwV_464, rN, rU, rD, rfl⟩, (k_Iv_chg hIv (by omega) hg), (k_Iv_sav hIs hIv), (by rw [pk_us]), (by rw [pk_un (by decide), pk_un (by decide)]; exact q8), (k_Sn_eq hsn6 (by rw [pk_un (by decide), pk_un (by decide)])), (k_sav_6' hl6), rfl⟩
      
    · refine q_aload_n C dL_law_432 433 3 rfl rfl ?_
      refine q_aload_n C dL_law_433 434 4 rfl rfl ?_
      refine q_iload C dL_law_434 436 0 rfl rfl ?_
      refine q_iconst (v := nI 1) C dL_law_436 437 rfl (by decide) ?_
      refine q_iadd (v := nI (i + 1)) C dL_law_437 438 rfl (q_nadd (by omega)) ?_
      refine q_sld (v := nI c) C hXb hbl hbA (i + 1) rfl (by omega) (by omega) hxv dL_law_438 439 rfl ?_
      refine q_aload_n C dL_law_439 440 4 rfl rfl ?_
      refine q_iload C dL_law_440 442 0 rfl rfl ?_
      refine q_iconst (v := nI 2) C dL_law_442 443 rfl (by decide) ?_
      refine q_iadd (v := nI (i + 2)) C dL_law_443 444 rfl (q_nadd (by omega)) ?_
      refine q_sld (v := v2) C hXb hbl hbA (i + 2) rfl (by omega) (by omega) hxv2 dL_law_444 445 rfl ?_
      refine q_aload_n C dL_law_445 446 1 rfl rfl ?_
      refine q_reord [0, 19, 1, 2, 3, 4, 5, 6, 7, 8, 9, 10, 11, 12, 13, 14, 15, 16, 17, 18] (by decide : ([0, 19, 1, 2, 3, 4, 5, 6, 7, 8, 9, 10, 11, 12, 13, 14, 15, 16, 17, 18] : List Nat).Perm (List.range 20)) (Rs' := [wX, [(o, .inl (cJ, 1, .inr (.inl g)))], wO, wA, wB, wL, wH, vO, vA, vB, vL, wT, wK, wP, wQ, wZ, wV, wN, wU, wD]) rfl rfl ?_
      refine q_resp (Rs' := [[wX].flatten, [(o, .inl (cJ, 1, .inr (.inl g)))], wO, wA, wB, wL, wH, vO, vA, vB, vL, wT, wK, wP, wQ, wZ, wV, wN, wU, wD]) (by simp) ?_
      refine q_callSW (n := 4) (As := [.ref x, .int (nI c), .int v2, .ref o]) (rest := []) (Rr := [wO, wA, wB, wL, wH, vO, vA, vB, vL, wT, wK, wP, wQ, wZ, wV, wN, wU, wD]) C (c_L_change_x2 l hZ hJ hXs x o (nI c) v2 (q_hd (k_isX_recv rX)) (q_Xflat (List.append_nil _).symm (c_X6_change_b l hZ hI hG hVs hXs hlT x aO aY aN hsn aT aK wX rX c v2 (by omega) hg)) (Nat.le_of_ble_eq_true rfl) (Nat.le_of_ble_eq_true rfl) rfl rfl g) gL_law_L_change rfl rfl rfl (by decide +kernel) B.1 ⟨Nat.le_of_ble_eq_true rfl, Nat.le_of_ble_eq_true rfl⟩ rfl rfl (Nat.le_of_ble_eq_true rfl) dL_law_446 ⟨(by show (80 + i) + 1 ≤ 601024; omega), (by show (6951 + 2 * i) + 6 ≤ 7293034; omega)⟩ [0, 1] [2, 3, 4, 5, 6, 7, 8, 9, 10, 11, 12, 13, 14, 15, 16, 17, 18, 19] (by decide : ([0, 1] ++ ([2, 3, 4, 5, 6, 7, 8, 9, 10, 11, 12, 13, 14, 15, 16, 17, 18, 19] : List Nat)).Perm (List.range 20)) rfl rfl 449 rfl (fun v0 R0 t0 ht0 hp0 => ?_)
      obtain ⟨rfl, rfl⟩ := hp0
      refine q_eqs (st' := [.int (nI 2)]) rfl ?_
      refine q_resp (Rs' := [wX, [(o, .inl (cJ, 1, .inr (.inl g)))], wO, wA, wB, wL, wH, vO, vA, vB, vL, wT, wK, wP, wQ, wZ, wV, wN, wU, wD]) (by simp) ?_
      refine q_reord [0, 2, 3, 4, 5, 6, 7, 8, 9, 10, 11, 12, 13, 14, 15, 16, 17, 18, 19, 1] (by decide : ([0, 2, 3, 4, 5, 6, 7, 8, 9, 10, 11, 12, 13, 14, 15, 16, 17, 18, 19, 1] : List Nat).Perm (List.range 20)) (Rs' := [wX, wO, wA, wB, wL, wH, vO, vA, vB, vL, wT, wK, wP, wQ, wZ, wV, wN, wU, wD, [(o, .inl (cJ, 1, .inr (.inl g)))]]) rfl rfl ?_
      refine q_istore C dL_law_449 451 rfl [(5, .int (nI 2)), (4, .int (nI i)), (3, .ref o), (2, .ref y), (1, .ref x), (0, .ref b)] (by decide) rfl ?_
      refine q_aload_n C dL_law_451 452 3 rfl rfl ?_
      refine q_aload_n C dL_law_452 453 5 rfl rfl ?_
      refine q_iload C dL_law_453 455 1 rfl rfl ?_
      refine q_iconst (v := nI 1) C dL_law_455 456 rfl (by decide) ?_
      refine q_iadd (v := nI (i + 1)) C dL_law_456 457 rfl (q_nadd (by omega)) ?_
      refine q_sld (v := nI c) C hXb hbl hbA (i + 1) rfl (by omega) (by omega) hxv dL_law_457 458 rfl ?_
      refine q_aload_n C dL_law_458 459 5 rfl rfl ?_
      refine q_iload C dL_law_459 461 1 rfl rfl ?_
      refine q_iconst (v := nI 2) C dL_law_461 462 rfl (by decide) ?_
      refine q_iadd (v := nI (i + 2)) C dL_law_462 463 rfl (q_nadd (by omega)) ?_
      refine q_sld (v := v2) C hXb hbl hbA (i + 2) rfl (by omega) (by omega) hxv2 dL_law_463 464 rfl ?_
      refine q_callV (k := 12) (ci := 6) (n := 2) (rest := []) (Rr := [wX, wO, wA, wB, wL, wH, vO, vA, vB, vL, wT, wK, wQ, wZ, wV, wN, wU, wD, [(o, .inl (cJ, 1, .inr (.inl g)))]]) C rfl (k_isP_recv rP) rfl (c_X7_change_b l hZ hI y mS mZ mV mN mU mD fd hh wP rP c v2 (by omega) hg) gL_law_X7_change rfl rfl rfl (by decide +kernel) B.1 ⟨Nat.le_of_ble_eq_true rfl, Nat.le_of_ble_eq_true rfl⟩ rfl rfl (Nat.le_of_ble_eq_true rfl) dL_law_464 ⟨(by show ((80 + i) + 1) + 0 ≤ 601024; omega), (by show ((6951 + 2 * i) + 6) + 0 ≤ 7293034; omega)⟩ [12] [0, 1, 2, 3, 4, 5, 6, 7, 8, 9, 10, 11, 13, 14, 15, 16, 17, 18, 19] (by decide : ([12] ++ ([0, 1, 2, 3, 4, 5, 6, 7, 8, 9, 10, 11, 13, 14, 15, 16, 17, 18, 19] : List Nat)).Perm (List.range 20)) rfl rfl 467 rfl (fun v0 R0 t0 ht0 hp0 => ?_)
      obtain ⟨rfl, w_464, hw_464, rfl⟩ := hp0
      refine q_eqs (st' := [.int (nI 0)]) rfl ?_
      refine q_reord [1, 2, 3, 4, 5, 6, 7, 8, 9, 10, 11, 12, 0, 13, 14, 15, 16, 17, 18, 19] (by decide : ([1, 2, 3, 4, 5, 6, 7, 8, 9, 10, 11, 12, 0, 13, 14, 15, 16, 17, 18, 19] : List Nat).Perm (List.range 20)) (Rs' := [wX, wO, wA, wB, wL, wH, vO, vA, vB, vL, wT, wK, w_464, wQ, wZ, wV, wN, wU, wD, [(o, .inl (cJ, 1, .inr (.inl g)))]]) rfl rfl ?_
      refine q_istore C dL_law_467 469 rfl [(6, .int (nI 0)), (5, .int (nI 2)), (4, .int (nI i)), (3, .ref o), (2, .ref y), (1, .ref x), (0, .ref b)] (by decide) rfl ?_
      refine q_aload_n C dL_law_469 470 4 rfl rfl ?_
      refine q_callV (k := 12) (ci := 6) (n := 0) (rest := []) (Rr := [wX, wO, wA, wB, wL, wH, vO, vA, vB, vL, wT, wK, wQ, wZ, wV, wN, wU, wD, [(o, .inl (cJ, 1, .inr (.inl g)))]]) C rfl (k_isP_recv hw_464) rfl (c_X7_thrown l hZ hI y mS mZ mV mN mU mD (upd (upd fd 0 (nI 0)) 0 (nI 2)) hh w_464 hw_464) gL_law_X7_thrown rfl rfl rfl (by decide +kernel) B.1 ⟨Nat.le_of_ble_eq_true rfl, Nat.le_of_ble_eq_true rfl⟩ rfl rfl (Nat.le_of_ble_eq_true rfl) dL_law_470 ⟨(by show ((80 + i) + 1) + 0 ≤ 601024; omega), (by show ((6951 + 2 * i) + 6) + 0 ≤ 7293034; omega)⟩ [12] [0, 1, 2, 3, 4, 5, 6, 7, 8, 9, 10, 11, 13, 14, 15, 16, 17, 18, 19] (by decide : ([12] ++ ([0, 1, 2, 3, 4, 5, 6, 7, 8, 9, 10, 11, 13, 14, 15, 16, 17, 18, 19] : List Nat)).Perm (List.range 20)) rfl rfl 473 rfl (fun v0 R0 t0 ht0 hp0 => ?_)
      obtain ⟨rfl, rfl⟩ := hp0
      refine q_eqs (st' := [.int ((upd (upd fd 0 (nI 0)) 0 (nI 2)) 0)]) rfl ?_
      refine q_reord [1, 2, 3, 4, 5, 6, 7, 8, 9, 10, 11, 12, 0, 13, 14, 15, 16, 17, 18, 19] (by decide : ([1, 2, 3, 4, 5, 6, 7, 8, 9, 10, 11, 12, 0, 13, 14, 15, 16, 17, 18, 19] : List Nat).Perm (List.range 20)) (Rs' := [wX, wO, wA, wB, wL, wH, vO, vA, vB, vL, wT, wK, w_464, wQ, wZ, wV, wN, wU, wD, [(o, .inl (cJ, 1, .inr (.inl g)))]]) rfl rfl ?_
      refine q_eqs (st' := [.int (nI 2)]) (by rw [pk_us]) ?_
      refine q_iload C dL_law_473 475 1 rfl rfl ?_
      refine q_icmp_eq C dL_law_475 478 480 rfl (by decide) (nI_eq (by omega) (by omega)) (fun h475 => ?_) (fun h475 => False.elim (by first | omega | simp_all))
      refine q_iload C dL_law_480 482 1 rfl rfl ?_
      refine q_if_ne C dL_law_482 485 497 rfl (by decide) (q_eq0 (by omega)) (fun h482 => ?_) (fun h482 => False.elim (by first | omega | simp_all))
      refine q_goto C dL_law_497 1304 (by decide) ?_
      refine q_sub (L' := [(4, .int (nI i)), (3, .ref o), (2, .ref y), (1, .ref x), (0, .ref b)]) [2, 3, 4, 5, 6] rfl ?_
      refine q_widen (k := 80 + i + 1) (n := 6951 + 2 * i + 6) (by omega) (by omega) ?_
      exact kk _ ⟨(bx, at0, ln, sc), sv, hsn, (sb, sa, sl, ss), (nb, na, nl, ns), tx, upd (upd fd 0 (nI 0)) 0 (nI 2), g, _, _, ⟨_, _, _, _, _, _, _, _, _, _, _, _, _, _, _, _, _, _, _, _, _, _, _, _, _, rX, ⟨rO, rA, rB, rL⟩, rH, ⟨gO, gA, gB, gL⟩, rT, rK, rfl⟩, ⟨_, _, _, _, _, _, _, (zb, za, zl, zs), _, _, _, _, _, _, _, _, _, hw_464, rQ, rZ, rV, rN, rU, rD, rfl⟩, hIv, hIs, (by rw [pk_un (by decide), pk_un (by decide)]; exact q4), (by rw [pk_un (by decide), pk_un (by decide)]; exact q8), (k_Sn_eq hsn6 (by rw [pk_un (by decide), pk_un (by decide)])), hl6, rfl⟩
      
  · refine q_aload_n C dL_law_432 433 3 rfl rfl ?_
    refine q_aload_n C dL_law_433 434 4 rfl rfl ?_
    refine q_iload C dL_law_434 436 0 rfl rfl ?_
    refine q_iconst (v := nI 1) C dL_law_436 437 rfl (by decide) ?_
    refine q_iadd (v := nI (i + 1)) C dL_law_437 438 rfl (q_nadd (by omega)) ?_
    refine q_sld (v := v) C hXb hbl hbA (i + 1) rfl (by omega) (by omega) hxv dL_law_438 439 rfl ?_
    refine q_aload_n C dL_law_439 440 4 rfl rfl ?_
    refine q_iload C dL_law_440 442 0 rfl rfl ?_
    refine q_iconst (v := nI 2) C dL_law_442 443 rfl (by decide) ?_
    refine q_iadd (v := nI (i + 2)) C dL_law_443 444 rfl (q_nadd (by omega)) ?_
    refine q_sld (v := v2) C hXb hbl hbA (i + 2) rfl (by omega) (by omega) hxv2 dL_law_444 445 rfl ?_
    refine q_aload_n C dL_law_445 446 1 rfl rfl ?_
    refine q_reord [0, 19, 1, 2, 3, 4, 5, 6, 7, 8, 9, 10, 11, 12, 13, 14, 15, 16, 17, 18] (by decide : ([0, 19, 1, 2, 3, 4, 5, 6, 7, 8, 9, 10, 11, 12, 13, 14, 15, 16, 17, 18] : List Nat).Perm (List.range 20)) (Rs' := [wX, [(o, .inl (cJ, 1, .inr (.inl g)))], wO, wA, wB, wL, wH, vO, vA, vB, vL, wT, wK, wP, wQ, wZ, wV, wN, wU, wD]) rfl rfl ?_
    refine q_resp (Rs' := [[wX].flatten, [(o, .inl (cJ, 1, .inr (.inl g)))], wO, wA, wB, wL, wH, vO, vA, vB, vL, wT, wK, wP, wQ, wZ, wV, wN, wU, wD]) (by simp) ?_
    refine q_callSW (n := 4) (As := [.ref x, .int v, .int v2, .ref o]) (rest := []) (Rr := [wO, wA, wB, wL, wH, vO, vA, vB, vL, wT, wK, wP, wQ, wZ, wV, wN, wU, wD]) C (c_L_change_x1 l hZ hJ hXs x o v v2 (q_hd (k_isX_recv rX)) (q_Xflat (List.append_nil _).symm (c_X6_change_a l hZ hI hG hVs hXs hlT x aO aY aN hsn aT aK wX rX v v2 hv)) (Nat.le_of_ble_eq_true rfl) (Nat.le_of_ble_eq_true rfl) rfl rfl g) gL_law_L_change rfl rfl rfl (by decide +kernel) B.1 ⟨Nat.le_of_ble_eq_true rfl, Nat.le_of_ble_eq_true rfl⟩ rfl rfl (Nat.le_of_ble_eq_true rfl) dL_law_446 ⟨(by show (80 + i) + 1 ≤ 601024; omega), (by show (6951 + 2 * i) + 6 ≤ 7293034; omega)⟩ [0, 1] [2, 3, 4, 5, 6, 7, 8, 9, 10, 11, 12, 13, 14, 15, 16, 17, 18, 19] (by decide : ([0, 1] ++ ([2, 3, 4, 5, 6, 7, 8, 9, 10, 11, 12, 13, 14, 15, 16, 17, 18, 19] : List Nat)).Perm (List.range 20)) rfl rfl 449 rfl (fun v0 R0 t0 ht0 hp0 => ?_)
    obtain ⟨rfl, rfl⟩ := hp0
    refine q_eqs (st' := [.int (nI 1)]) rfl ?_
    refine q_resp (Rs' := [wX, [(o, .inl (cJ, 1, .inr (.inl g)))], wO, wA, wB, wL, wH, vO, vA, vB, vL, wT, wK, wP, wQ, wZ, wV, wN, wU, wD]) (by simp) ?_
    refine q_reord [0, 2, 3, 4, 5, 6, 7, 8, 9, 10, 11, 12, 13, 14, 15, 16, 17, 18, 19, 1] (by decide : ([0, 2, 3, 4, 5, 6, 7, 8, 9, 10, 11, 12, 13, 14, 15, 16, 17, 18, 19, 1] : List Nat).Perm (List.range 20)) (Rs' := [wX, wO, wA, wB, wL, wH, vO, vA, vB, vL, wT, wK, wP, wQ, wZ, wV, wN, wU, wD, [(o, .inl (cJ, 1, .inr (.inl g)))]]) rfl rfl ?_
    refine q_istore C dL_law_449 451 rfl [(5, .int (nI 1)), (4, .int (nI i)), (3, .ref o), (2, .ref y), (1, .ref x), (0, .ref b)] (by decide) rfl ?_
    refine q_aload_n C dL_law_451 452 3 rfl rfl ?_
    refine q_aload_n C dL_law_452 453 5 rfl rfl ?_
    refine q_iload C dL_law_453 455 1 rfl rfl ?_
    refine q_iconst (v := nI 1) C dL_law_455 456 rfl (by decide) ?_
    refine q_iadd (v := nI (i + 1)) C dL_law_456 457 rfl (q_nadd (by omega)) ?_
    refine q_sld (v := v) C hXb hbl hbA (i + 1) rfl (by omega) (by omega) hxv dL_law_457 458 rfl ?_
    refine q_aload_n C dL_law_458 459 5 rfl rfl ?_
    refine q_iload C dL_law_459 461 1 rfl rfl ?_
    refine q_iconst (v := nI 2) C dL_law_461 462 rfl (by decide) ?_
    refine q_iadd (v := nI (i + 2)) C dL_law_462 463 rfl (q_nadd (by omega)) ?_
    refine q_sld (v := v2) C hXb hbl hbA (i + 2) rfl (by omega) (by omega) hxv2 dL_law_463 464 rfl ?_
    refine q_callV (k := 12) (ci := 6) (n := 2) (rest := []) (Rr := [wX, wO, wA, wB, wL, wH, vO, vA, vB, vL, wT, wK, wQ, wZ, wV, wN, wU, wD, [(o, .inl (cJ, 1, .inr (.inl g)))]]) C rfl (k_isP_recv rP) rfl (c_X7_change_a l hZ hI y mS mZ mV mN mU mD fd hh wP rP v v2 hv) gL_law_X7_change rfl rfl rfl (by decide +kernel) B.1 ⟨Nat.le_of_ble_eq_true rfl, Nat.le_of_ble_eq_true rfl⟩ rfl rfl (Nat.le_of_ble_eq_true rfl) dL_law_464 ⟨(by show ((80 + i) + 1) + 0 ≤ 601024; omega), (by show ((6951 + 2 * i) + 6) + 0 ≤ 7293034; omega)⟩ [12] [0, 1, 2, 3, 4, 5, 6, 7, 8, 9, 10, 11, 13, 14, 15, 16, 17, 18, 19] (by decide : ([12] ++ ([0, 1, 2, 3, 4, 5, 6, 7, 8, 9, 10, 11, 13, 14, 15, 16, 17, 18, 19] : List Nat)).Perm (List.range 20)) rfl rfl 467 rfl (fun v0 R0 t0 ht0 hp0 => ?_)
    obtain ⟨rfl, w_464, hw_464, rfl⟩ := hp0
    refine q_eqs (st' := [.int (nI 0)]) rfl ?_
    refine q_reord [1, 2, 3, 4, 5, 6, 7, 8, 9, 10, 11, 12, 0, 13, 14, 15, 16, 17, 18, 19] (by decide : ([1, 2, 3, 4, 5, 6, 7, 8, 9, 10, 11, 12, 0, 13, 14, 15, 16, 17, 18, 19] : List Nat).Perm (List.range 20)) (Rs' := [wX, wO, wA, wB, wL, wH, vO, vA, vB, vL, wT, wK, w_464, wQ, wZ, wV, wN, wU, wD, [(o, .inl (cJ, 1, .inr (.inl g)))]]) rfl rfl ?_
    refine q_istore C dL_law_467 469 rfl [(6, .int (nI 0)), (5, .int (nI 1)), (4, .int (nI i)), (3, .ref o), (2, .ref y), (1, .ref x), (0, .ref b)] (by decide) rfl ?_
    refine q_aload_n C dL_law_469 470 4 rfl rfl ?_
    refine q_callV (k := 12) (ci := 6) (n := 0) (rest := []) (Rr := [wX, wO, wA, wB, wL, wH, vO, vA, vB, vL, wT, wK, wQ, wZ, wV, wN, wU, wD, [(o, .inl (cJ, 1, .inr (.inl g)))]]) C rfl (k_isP_recv hw_464) rfl (c_X7_thrown l hZ hI y mS mZ mV mN mU mD (upd (upd fd 0 (nI 0)) 0 (nI 1)) hh w_464 hw_464) gL_law_X7_thrown rfl rfl rfl (by decide +kernel) B.1 ⟨Nat.le_of_ble_eq_true rfl, Nat.le_of_ble_eq_true rfl⟩ rfl rfl (Nat.le_of_ble_eq_true rfl) dL_law_470 ⟨(by show ((80 + i) + 1) + 0 ≤ 601024; omega), (by show ((6951 + 2 * i) + 6) + 0 ≤ 7293034; omega)⟩ [12] [0, 1, 2, 3, 4, 5, 6, 7, 8, 9, 10, 11, 13, 14, 15, 16, 17, 18, 19] (by decide : ([12] ++ ([0, 1, 2, 3, 4, 5, 6, 7, 8, 9, 10, 11, 13, 14, 15, 16, 17, 18, 19] : List Nat)).Perm (List.range 20)) rfl rfl 473 rfl (fun v0 R0 t0 ht0 hp0 => ?_)
    obtain ⟨rfl, rfl⟩ := hp0
    refine q_eqs (st' := [.int ((upd (upd fd 0 (nI 0)) 0 (nI 1)) 0)]) rfl ?_
    refine q_reord [1, 2, 3, 4, 5, 6, 7, 8, 9, 10, 11, 12, 0, 13, 14, 15, 16, 17, 18, 19] (by decide : ([1, 2, 3, 4, 5, 6, 7, 8, 9, 10, 11, 12, 0, 13, 14, 15, 16, 17, 18, 19] : List Nat).Perm (List.range 20)) (Rs' := [wX, wO, wA, wB, wL, wH, vO, vA, vB, vL, wT, wK, w_464, wQ, wZ, wV, wN, wU, wD, [(o, .inl (cJ, 1, .inr (.inl g)))]]) rfl rfl ?_
    refine q_eqs (st' := [.int (nI 1)]) (by rw [pk_us]) ?_
    refine q_iload C dL_law_473 475 1 rfl rfl ?_
    refine q_icmp_eq C dL_law_475 478 480 rfl (by decide) (nI_eq (by omega) (by omega)) (fun h475 => ?_) (fun h475 => False.elim (by first | omega | simp_all))
    refine q_iload C dL_law_480 482 1 rfl rfl ?_
    refine q_if_ne C dL_law_482 485 497 rfl (by decide) (q_eq0 (by omega)) (fun h482 => ?_) (fun h482 => False.elim (by first | omega | simp_all))
    refine q_goto C dL_law_497 1304 (by decide) ?_
    refine q_sub (L' := [(4, .int (nI i)), (3, .ref o), (2, .ref y), (1, .ref x), (0, .ref b)]) [2, 3, 4, 5, 6] rfl ?_
    refine q_widen (k := 80 + i + 1) (n := 6951 + 2 * i + 6) (by omega) (by omega) ?_
    exact kk _ ⟨(bx, at0, ln, sc), sv, hsn, (sb, sa, sl, ss), (nb, na, nl, ns), tx, upd (upd fd 0 (nI 0)) 0 (nI 1), g, _, _, ⟨_, _, _, _, _, _, _, _, _, _, _, _, _, _, _, _, _, _, _, _, _, _, _, _, _, rX, ⟨rO, rA, rB, rL⟩, rH, ⟨gO, gA, gB, gL⟩, rT, rK, rfl⟩, ⟨_, _, _, _, _, _, _, (zb, za, zl, zs), _, _, _, _, _, _, _, _, _, hw_464, rQ, rZ, rV, rN, rU, rD, rfl⟩, hIv, hIs, (by rw [pk_un (by decide), pk_un (by decide)]; exact q4), (by rw [pk_un (by decide), pk_un (by decide)]; exact q8), (k_Sn_eq hsn6 (by rw [pk_un (by decide), pk_un (by decide)])), hl6, rfl⟩
    

set_option maxHeartbeats 1000000 in
set_option maxRecDepth 100000 in
theorem law_c6 {p9 : Program} {l : Launch} {e9 : Env} {R : Room} {s9 : State} {m9 : MethodId} {args : Array Value} {below : List Frame} {meth : Method} {c9 : Code} {Q : State → Prop} {D : va_G} {tys : List (ClassId × FieldType)} {A : Nat → Prop} {Z : (Nat → Prop) → State → Heap → Prop} {b LL : Nat} {xs : Nat → Int32} {x y o i : Nat} {Rs : List va_W} (C : q_C p9 s9 m9 args c9 cL_law 9 wsL_law RL D tys Z A) (hZ : q_St Z) {cI cG cJ : ClassId} (hI : tys[0]? = some (cI, .int)) (hG : tys[1]? = some (cG, .object "SortCases$State")) (hJ : tys[2]? = some (cJ, .long)) (hN : q_Ns Z) {ad aw av : Nat → Nat} {tK : Nat} (hKs : q_Ks Z ad aw av tK) {tL tH : Nat} (hVs : q_Vs Z tL tH) (hXs : q_Xs Z) (hlT : l.stackTraces = false) (hXb : va_X b LL xs s9 s9.heap) (hbl : b < s9.heap.size) (hbA : ¬ A b) (hR : R = ({ frames := 12, cells := 601024, slots := 7293034, locals := 454 } : Room)) (hi : i + 3 ≤ LL) (hL : LL ≤ 1536) (hRs : law_I cG cI cJ x y o Rs) (kk : ∀ Rs', law_I cG cI cJ x y o Rs' → q_V p9 l e9 R s9 m9 args below meth c9 D A 9 Q (80 + i + 1) (6951 + 2 * i + 6) 1304 [(4, .int (nI i)), (3, .ref o), (2, .ref y), (1, .ref x), (0, .ref b)] [] Rs') : q_V p9 l e9 R s9 m9 args below meth c9 D A 9 Q (80 + i) (6951 + 2 * i) 500 [(4, .int (nI i)), (3, .ref o), (2, .ref y), (1, .ref x), (0, .ref b)] [] Rs := by
  have hcI := hI
  have hcG := hG
  have B : R = ({ frames := 12, cells := 601024, slots := 7293034, locals := 454 } : Room) ∧ True := ⟨hR, trivial⟩
  have hts := C.2.2.2.2.1
  obtain ⟨⟨bx, at0, ln, sc⟩, sv, hsn, ⟨sb, sa, sl, ss⟩, ⟨nb, na, nl, ns⟩, tx, fd, g, R1, R2, ⟨aO, aY, aN, aT, aK, aB, aL, aS, naB, naL, naS, kb, ka, wX, wO, wA, wB, wL, wH, vO, vA, vB, vL, wT, wK, rX, ⟨rO, rA, rB, rL⟩, rH, ⟨gO, gA, gB, gL⟩, rT, rK, rfl⟩, ⟨mS, mZ, mV, mN, mU, mD, hh, ⟨zb, za, zl, zs⟩, dx, ps, wP, wQ, wZ, wV, wN, wU, wD, rP, rQ, rZ, rV, rN, rU, rD, rfl⟩, hIv, hIs, q4, q8, hsn6, hl6, rfl⟩ := hRs
  have rO : k_isO cI aO aB aL aS sc wO := rO
  have rA : k_isA cI aS sc wA := rA
  have rB : k_isB cI aB bx at0 wB := rB
  have rL : k_isL cI aL ln wL := rL
  have gO : k_isO cI aN naB naL naS ss vO := gO
  have gA : k_isA cI naS ss vA := gA
  have gB : k_isB cI naB sb sa vB := gB
  have gL : k_isL cI naL sl vL := gL
  have rQ : k_isQ cI mS bx at0 ln sc wQ := rQ
  have rZ : k_isQ cI mZ zb za zl zs wZ := rZ
  have rN : k_isQ cI mN nb na nl ns wN := rN
  have hll : ln.length ≤ 40 := rL.1.1
  have htl : tx.length ≤ 60 := rT.1.1
  obtain ⟨v, hxv⟩ : ∃ v, xs (i + 1) = v := ⟨_, rfl⟩
  obtain ⟨v2, hxv2⟩ : ∃ v2, xs (i + 2) = v2 := ⟨_, rfl⟩
  refine q_eqR (Rs' := [wX, wO, wA, wB, wL, wH, vO, vA, vB, vL, wT, wK, wP, wQ, wZ, wV, wN, wU, wD, [(o, .inl (cJ, 1, .inr (.inl g)))]]) rfl ?_
  by_cases hv : nI 33 ≤ v ∧ v ≤ nI 126
  · obtain ⟨c, hc, rfl⟩ := k_exr hv (by decide) (by decide)
    by_cases hf : tx.length < 60
    · refine q_aload_n C dL_law_500 501 3 rfl rfl ?_
      refine q_aload_n C dL_law_501 502 4 rfl rfl ?_
      refine q_iload C dL_law_502 504 0 rfl rfl ?_
      refine q_iconst (v := nI 1) C dL_law_504 505 rfl (by decide) ?_
      refine q_iadd (v := nI (i + 1)) C dL_law_505 506 rfl (q_nadd (by omega)) ?_
      refine q_sld (v := nI c) C hXb hbl hbA (i + 1) rfl (by omega) (by omega) hxv dL_law_506 507 rfl ?_
      refine q_aload_n C dL_law_507 508 1 rfl rfl ?_
      refine q_reord [0, 10, 19, 1, 2, 3, 4, 5, 6, 7, 8, 9, 11, 12, 13, 14, 15, 16, 17, 18] (by decide : ([0, 10, 19, 1, 2, 3, 4, 5, 6, 7, 8, 9, 11, 12, 13, 14, 15, 16, 17, 18] : List Nat).Perm (List.range 20)) (Rs' := [wX, wT, [(o, .inl (cJ, 1, .inr (.inl g)))], wO, wA, wB, wL, wH, vO, vA, vB, vL, wK, wP, wQ, wZ, wV, wN, wU, wD]) rfl rfl ?_
      refine q_resp (Rs' := [[wX, wT].flatten, [(o, .inl (cJ, 1, .inr (.inl g)))], wO, wA, wB, wL, wH, vO, vA, vB, vL, wK, wP, wQ, wZ, wV, wN, wU, wD]) (by simp) ?_
      refine q_callSW (n := 3) (As := [.ref x, .int (nI c), .ref o]) (rest := []) (Rr := [wO, wA, wB, wL, wH, vO, vA, vB, vL, wK, wP, wQ, wZ, wV, wN, wU, wD]) C (c_L_append_ok l hZ hJ x o (nI c) (r := nI (tx.length + 1)) (q_hd (k_isX_recv rX)) (q_Cflat (List.append_nil _).symm (c_X6_append_c l hZ hI hN x aO aY aN hsn aT aK wX rX tx wT rT c (by omega) (by omega) (by omega))) (Nat.le_of_ble_eq_true rfl) (Nat.le_of_ble_eq_true rfl) rfl rfl (fun _ _ _ h => h.1) g) gL_law_L_append rfl rfl rfl (by decide +kernel) B.1 ⟨Nat.le_of_ble_eq_true rfl, Nat.le_of_ble_eq_true rfl⟩ rfl rfl (Nat.le_of_ble_eq_true rfl) dL_law_508 ⟨(by show (80 + i) + 0 ≤ 601024; omega), (by show (6951 + 2 * i) + 0 ≤ 7293034; omega)⟩ [0, 1] [2, 3, 4, 5, 6, 7, 8, 9, 10, 11, 12, 13, 14, 15, 16, 17, 18] (by decide : ([0, 1] ++ ([2, 3, 4, 5, 6, 7, 8, 9, 10, 11, 12, 13, 14, 15, 16, 17, 18] : List Nat)).Perm (List.range 19)) rfl rfl 511 rfl (fun v0 R0 t0 ht0 hp0 => ?_)
      obtain ⟨rfl, R1, t1, ⟨-, wT_508, hwT_508, rfl⟩, rfl⟩ := hp0
      refine q_eqs (st' := [.int (nI 0)]) rfl ?_
      refine q_resp (Rs' := [wX, wT_508, [(o, .inl (cJ, 1, .inr (.inl (va_up g 0 (nI (tx.length + 1)).toInt64))))], wO, wA, wB, wL, wH, vO, vA, vB, vL, wK, wP, wQ, wZ, wV, wN, wU, wD]) (by simp) ?_
      refine q_reord [0, 3, 4, 5, 6, 7, 8, 9, 10, 11, 1, 12, 13, 14, 15, 16, 17, 18, 19, 2] (by decide : ([0, 3, 4, 5, 6, 7, 8, 9, 10, 11, 1, 12, 13, 14, 15, 16, 17, 18, 19, 2] : List Nat).Perm (List.range 20)) (Rs' := [wX, wO, wA, wB, wL, wH, vO, vA, vB, vL, wT_508, wK, wP, wQ, wZ, wV, wN, wU, wD, [(o, .inl (cJ, 1, .inr (.inl (va_up g 0 (nI (tx.length + 1)).toInt64))))]]) rfl rfl ?_
      refine q_istore C dL_law_511 513 rfl [(5, .int (nI 0)), (4, .int (nI i)), (3, .ref o), (2, .ref y), (1, .ref x), (0, .ref b)] (by decide) rfl ?_
      refine q_aload_n C dL_law_513 514 3 rfl rfl ?_
      refine q_aload_n C dL_law_514 515 5 rfl rfl ?_
      refine q_iload C dL_law_515 517 1 rfl rfl ?_
      refine q_iconst (v := nI 1) C dL_law_517 518 rfl (by decide) ?_
      refine q_iadd (v := nI (i + 1)) C dL_law_518 519 rfl (q_nadd (by omega)) ?_
      refine q_sld (v := nI c) C hXb hbl hbA (i + 1) rfl (by omega) (by omega) hxv dL_law_519 520 rfl ?_
      refine q_callV (k := 12) (ci := 6) (n := 1) (rest := []) (Rr := [wX, wO, wA, wB, wL, wH, vO, vA, vB, vL, wT_508, wK, wQ, wZ, wV, wN, wD, [(o, .inl (cJ, 1, .inr (.inl (va_up g 0 (nI (tx.length + 1)).toInt64))))]]) C rfl (k_isP_recv rP) rfl (c_X7_append_c l hZ hI y mS mZ mV mN mU mD fd hh wP rP tx wU rU c (by omega) (by omega) q8 (by omega)) gL_law_X7_append rfl rfl rfl (by decide +kernel) B.1 ⟨Nat.le_of_ble_eq_true rfl, Nat.le_of_ble_eq_true rfl⟩ rfl rfl (Nat.le_of_ble_eq_true rfl) dL_law_520 ⟨(by show ((80 + i) + 0) + 0 ≤ 601024; omega), (by show ((6951 + 2 * i) + 0) + 0 ≤ 7293034; omega)⟩ [12, 17] [0, 1, 2, 3, 4, 5, 6, 7, 8, 9, 10, 11, 13, 14, 15, 16, 18, 19] (by decide : ([12, 17] ++ ([0, 1, 2, 3, 4, 5, 6, 7, 8, 9, 10, 11, 13, 14, 15, 16, 18, 19] : List Nat)).Perm (List.range 20)) rfl rfl 523 rfl (fun v0 R0 t0 ht0 hp0 => ?_)
      obtain ⟨rfl, wP_520, hwP_520, wU_520, hwU_520, rfl⟩ := hp0
      refine q_eqs (st' := [.int (nI (tx.length + 1))]) rfl ?_
      refine q_reord [2, 3, 4, 5, 6, 7, 8, 9, 10, 11, 12, 13, 0, 14, 15, 16, 17, 1, 18, 19] (by decide : ([2, 3, 4, 5, 6, 7, 8, 9, 10, 11, 12, 13, 0, 14, 15, 16, 17, 1, 18, 19] : List Nat).Perm (List.range 20)) (Rs' := [wX, wO, wA, wB, wL, wH, vO, vA, vB, vL, wT_508, wK, wP_520, wQ, wZ, wV, wN, wU_520, wD, [(o, .inl (cJ, 1, .inr (.inl (va_up g 0 (nI (tx.length + 1)).toInt64))))]]) rfl rfl ?_
      refine q_istore C dL_law_523 525 rfl [(6, .int (nI (tx.length + 1))), (5, .int (nI 0)), (4, .int (nI i)), (3, .ref o), (2, .ref y), (1, .ref x), (0, .ref b)] (by decide) rfl ?_
      refine q_aload_n C dL_law_525 526 4 rfl rfl ?_
      refine q_callV (k := 12) (ci := 6) (n := 0) (rest := []) (Rr := [wX, wO, wA, wB, wL, wH, vO, vA, vB, vL, wT_508, wK, wQ, wZ, wV, wN, wU_520, wD, [(o, .inl (cJ, 1, .inr (.inl (va_up g 0 (nI (tx.length + 1)).toInt64))))]]) C rfl (k_isP_recv hwP_520) rfl (c_X7_thrown l hZ hI y mS mZ mV mN mU mD (upd (upd fd 0 (nI 0)) 8 (nI (tx.length + 1))) hh wP_520 hwP_520) gL_law_X7_thrown rfl rfl rfl (by decide +kernel) B.1 ⟨Nat.le_of_ble_eq_true rfl, Nat.le_of_ble_eq_true rfl⟩ rfl rfl (Nat.le_of_ble_eq_true rfl) dL_law_526 ⟨(by show ((80 + i) + 0) + 0 ≤ 601024; omega), (by show ((6951 + 2 * i) + 0) + 0 ≤ 7293034; omega)⟩ [12] [0, 1, 2, 3, 4, 5, 6, 7, 8, 9, 10, 11, 13, 14, 15, 16, 17, 18, 19] (by decide : ([12] ++ ([0, 1, 2, 3, 4, 5, 6, 7, 8, 9, 10, 11, 13, 14, 15, 16, 17, 18, 19] : List Nat)).Perm (List.range 20)) rfl rfl 529 rfl (fun v0 R0 t0 ht0 hp0 => ?_)
      obtain ⟨rfl, rfl⟩ := hp0
      refine q_eqs (st' := [.int ((upd (upd fd 0 (nI 0)) 8 (nI (tx.length + 1))) 0)]) rfl ?_
      refine q_reord [1, 2, 3, 4, 5, 6, 7, 8, 9, 10, 11, 12, 0, 13, 14, 15, 16, 17, 18, 19] (by decide : ([1, 2, 3, 4, 5, 6, 7, 8, 9, 10, 11, 12, 0, 13, 14, 15, 16, 17, 18, 19] : List Nat).Perm (List.range 20)) (Rs' := [wX, wO, wA, wB, wL, wH, vO, vA, vB, vL, wT_508, wK, wP_520, wQ, wZ, wV, wN, wU_520, wD, [(o, .inl (cJ, 1, .inr (.inl (va_up g 0 (nI (tx.length + 1)).toInt64))))]]) rfl rfl ?_
      refine q_eqs (st' := [.int (nI 0)]) (by rw [pk_un (by decide), pk_us]) ?_
      refine q_iload C dL_law_529 531 1 rfl rfl ?_
      refine q_icmp_eq C dL_law_531 534 536 rfl (by decide) (nI_eq (by omega) (by omega)) (fun h531 => ?_) (fun h531 => False.elim (by first | omega | simp_all))
      refine q_iload C dL_law_536 538 1 rfl rfl ?_
      refine q_if_ne C dL_law_538 541 553 rfl (by decide) (q_eq0 (by omega)) (fun h538 => False.elim (by first | omega | simp_all)) (fun h538 => ?_)
      refine q_aload_n C dL_law_541 542 3 rfl rfl ?_
      refine q_iconst (v := nI 0) C dL_law_542 543 rfl (by decide) ?_
      refine q_lald (k := 19) (j := 0) (v := (nI (tx.length + 1)).toInt64) C dL_law_543 544 rfl rfl rfl hJ 0 rfl (by decide) (by decide) k_up_s ?_
      refine q_iload C dL_law_544 546 0 rfl rfl ?_
      refine q_i2l (v := ((nI (tx.length + 1)) : Int32).toInt64) C dL_law_546 547 rfl rfl ?_
      refine q_lcmp C dL_law_547 548 rfl ?_
      refine q_if_eq C dL_law_548 551 553 rfl (by decide) Iff.rfl (fun h548 => ?_) (fun h548 => False.elim (h548 (lg_self _)))
      refine q_goto C dL_law_553 1304 (by decide) ?_
      refine q_sub (L' := [(4, .int (nI i)), (3, .ref o), (2, .ref y), (1, .ref x), (0, .ref b)]) [2, 3, 4, 5, 6] rfl ?_
      refine q_widen (k := 80 + i + 1) (n := 6951 + 2 * i + 6) (by omega) (by omega) ?_
      exact kk _ ⟨(bx, at0, ln, sc), sv, hsn, (sb, sa, sl, ss), (nb, na, nl, ns), (tx ++ [c]), upd (upd fd 0 (nI 0)) 8 (nI (tx.length + 1)), va_up g 0 (nI (tx.length + 1)).toInt64, _, _, ⟨_, _, _, _, _, _, _, _, _, _, _, _, _, _, _, _, _, _, _, _, _, _, _, _, _, rX, ⟨rO, rA, rB, rL⟩, rH, ⟨gO, gA, gB, gL⟩, hwT_508, rK, rfl⟩, ⟨_, _, _, _, _, _, _, (zb, za, zl, zs), _, _, _, _, _, _, _, _, _, hwP_520, rQ, rZ, rV, rN, hwU_520, rD, rfl⟩, hIv, hIs, (by rw [pk_un (by decide), pk_un (by decide)]; exact q4), (by rw [pk_us, List.length_append, List.length_singleton]), (k_Sn_eq hsn6 (by rw [pk_un (by decide), pk_un (by decide)])), hl6, rfl⟩
      
    · refine q_aload_n C dL_law_500 501 3 rfl rfl ?_
      refine q_aload_n C dL_law_501 502 4 rfl rfl ?_
      refine q_iload C dL_law_502 504 0 rfl rfl ?_
      refine q_iconst (v := nI 1) C dL_law_504 505 rfl (by decide) ?_
      refine q_iadd (v := nI (i + 1)) C dL_law_505 506 rfl (q_nadd (by omega)) ?_
      refine q_sld (v := nI c) C hXb hbl hbA (i + 1) rfl (by omega) (by omega) hxv dL_law_506 507 rfl ?_
      refine q_aload_n C dL_law_507 508 1 rfl rfl ?_
      refine q_reord [0, 10, 19, 1, 2, 3, 4, 5, 6, 7, 8, 9, 11, 12, 13, 14, 15, 16, 17, 18] (by decide : ([0, 10, 19, 1, 2, 3, 4, 5, 6, 7, 8, 9, 11, 12, 13, 14, 15, 16, 17, 18] : List Nat).Perm (List.range 20)) (Rs' := [wX, wT, [(o, .inl (cJ, 1, .inr (.inl g)))], wO, wA, wB, wL, wH, vO, vA, vB, vL, wK, wP, wQ, wZ, wV, wN, wU, wD]) rfl rfl ?_
      refine q_resp (Rs' := [[wX, wT].flatten, [(o, .inl (cJ, 1, .inr (.inl g)))], wO, wA, wB, wL, wH, vO, vA, vB, vL, wK, wP, wQ, wZ, wV, wN, wU, wD]) (by simp) ?_
      refine q_callSW (n := 3) (As := [.ref x, .int (nI c), .ref o]) (rest := []) (Rr := [wO, wA, wB, wL, wH, vO, vA, vB, vL, wK, wP, wQ, wZ, wV, wN, wU, wD]) C (c_L_append_x2 l hZ hJ hXs x o (nI c) (q_hd (k_isX_recv rX)) (q_Xflat (List.append_nil _).symm (c_X6_append_b l hZ hI hN hXs hlT x aO aY aN hsn aT aK wX rX tx wT rT c (by omega) (by omega) (by omega))) (Nat.le_of_ble_eq_true rfl) (Nat.le_of_ble_eq_true rfl) rfl rfl g) gL_law_L_append rfl rfl rfl (by decide +kernel) B.1 ⟨Nat.le_of_ble_eq_true rfl, Nat.le_of_ble_eq_true rfl⟩ rfl rfl (Nat.le_of_ble_eq_true rfl) dL_law_508 ⟨(by show (80 + i) + 1 ≤ 601024; omega), (by show (6951 + 2 * i) + 6 ≤ 7293034; omega)⟩ [0, 1] [2, 3, 4, 5, 6, 7, 8, 9, 10, 11, 12, 13, 14, 15, 16, 17, 18] (by decide : ([0, 1] ++ ([2, 3, 4, 5, 6, 7, 8, 9, 10, 11, 12, 13, 14, 15, 16, 17, 18] : List Nat)).Perm (List.range 19)) rfl rfl 511 rfl (fun v0 R0 t0 ht0 hp0 => ?_)
      obtain ⟨rfl, rfl⟩ := hp0
      refine q_eqs (st' := [.int (nI 2)]) rfl ?_
      refine q_resp (Rs' := [wX, wT, [(o, .inl (cJ, 1, .inr (.inl g)))], wO, wA, wB, wL, wH, vO, vA, vB, vL, wK, wP, wQ, wZ, wV, wN, wU, wD]) (by simp) ?_
      refine q_reord [0, 3, 4, 5, 6, 7, 8, 9, 10, 11, 1, 12, 13, 14, 15, 16, 17, 18, 19, 2] (by decide : ([0, 3, 4, 5, 6, 7, 8, 9, 10, 11, 1, 12, 13, 14, 15, 16, 17, 18, 19, 2] : List Nat).Perm (List.range 20)) (Rs' := [wX, wO, wA, wB, wL, wH, vO, vA, vB, vL, wT, wK, wP, wQ, wZ, wV, wN, wU, wD, [(o, .inl (cJ, 1, .inr (.inl g)))]]) rfl rfl ?_
      refine q_istore C dL_law_511 513 rfl [(5, .int (nI 2)), (4, .int (nI i)), (3, .ref o), (2, .ref y), (1, .ref x), (0, .ref b)] (by decide) rfl ?_
      refine q_aload_n C dL_law_513 514 3 rfl rfl ?_
      refine q_aload_n C dL_law_514 515 5 rfl rfl ?_
      refine q_iload C dL_law_515 517 1 rfl rfl ?_
      refine q_iconst (v := nI 1) C dL_law_517 518 rfl (by decide) ?_
      refine q_iadd (v := nI (i + 1)) C dL_law_518 519 rfl (q_nadd (by omega)) ?_
      refine q_sld (v := nI c) C hXb hbl hbA (i + 1) rfl (by omega) (by omega) hxv dL_law_519 520 rfl ?_
      refine q_callV (k := 12) (ci := 6) (n := 1) (rest := []) (Rr := [wX, wO, wA, wB, wL, wH, vO, vA, vB, vL, wT, wK, wQ, wZ, wV, wN, wD, [(o, .inl (cJ, 1, .inr (.inl g)))]]) C rfl (k_isP_recv rP) rfl (c_X7_append_b l hZ hI y mS mZ mV mN mU mD fd hh wP rP tx wU rU c (by omega) (by omega) q8 (by omega)) gL_law_X7_append rfl rfl rfl (by decide +kernel) B.1 ⟨Nat.le_of_ble_eq_true rfl, Nat.le_of_ble_eq_true rfl⟩ rfl rfl (Nat.le_of_ble_eq_true rfl) dL_law_520 ⟨(by show ((80 + i) + 1) + 0 ≤ 601024; omega), (by show ((6951 + 2 * i) + 6) + 0 ≤ 7293034; omega)⟩ [12, 17] [0, 1, 2, 3, 4, 5, 6, 7, 8, 9, 10, 11, 13, 14, 15, 16, 18, 19] (by decide : ([12, 17] ++ ([0, 1, 2, 3, 4, 5, 6, 7, 8, 9, 10, 11, 13, 14, 15, 16, 18, 19] : List Nat)).Perm (List.range 20)) rfl rfl 523 rfl (fun v0 R0 t0 ht0 hp0 => ?_)
      obtain ⟨rfl, wP_520, hwP_520, rfl⟩ := hp0
      refine q_eqs (st' := [.int (nI 0)]) rfl ?_
      refine q_reord [2, 3, 4, 5, 6, 7, 8, 9, 10, 11, 12, 13, 0, 14, 15, 16, 17, 1, 18, 19] (by decide : ([2, 3, 4, 5, 6, 7, 8, 9, 10, 11, 12, 13, 0, 14, 15, 16, 17, 1, 18, 19] : List Nat).Perm (List.range 20)) (Rs' := [wX, wO, wA, wB, wL, wH, vO, vA, vB, vL, wT, wK, wP_520, wQ, wZ, wV, wN, wU, wD, [(o, .inl (cJ, 1, .inr (.inl g)))]]) rfl rfl ?_
      refine q_istore C dL_law_523 525 rfl [(6, .int (nI 0)), (5, .int (nI 2)), (4, .int (nI i)), (3, .ref o), (2, .ref y), (1, .ref x), (0, .ref b)] (by decide) rfl ?_
      refine q_aload_n C dL_law_525 526 4 rfl rfl ?_
      refine q_callV (k := 12) (ci := 6) (n := 0) (rest := []) (Rr := [wX, wO, wA, wB, wL, wH, vO, vA, vB, vL, wT, wK, wQ, wZ, wV, wN, wU, wD, [(o, .inl (cJ, 1, .inr (.inl g)))]]) C rfl (k_isP_recv hwP_520) rfl (c_X7_thrown l hZ hI y mS mZ mV mN mU mD (upd (upd fd 0 (nI 0)) 0 (nI 2)) hh wP_520 hwP_520) gL_law_X7_thrown rfl rfl rfl (by decide +kernel) B.1 ⟨Nat.le_of_ble_eq_true rfl, Nat.le_of_ble_eq_true rfl⟩ rfl rfl (Nat.le_of_ble_eq_true rfl) dL_law_526 ⟨(by show ((80 + i) + 1) + 0 ≤ 601024; omega), (by show ((6951 + 2 * i) + 6) + 0 ≤ 7293034; omega)⟩ [12] [0, 1, 2, 3, 4, 5, 6, 7, 8, 9, 10, 11, 13, 14, 15, 16, 17, 18, 19] (by decide : ([12] ++ ([0, 1, 2, 3, 4, 5, 6, 7, 8, 9, 10, 11, 13, 14, 15, 16, 17, 18, 19] : List Nat)).Perm (List.range 20)) rfl rfl 529 rfl (fun v0 R0 t0 ht0 hp0 => ?_)
      obtain ⟨rfl, rfl⟩ := hp0
      refine q_eqs (st' := [.int ((upd (upd fd 0 (nI 0)) 0 (nI 2)) 0)]) rfl ?_
      refine q_reord [1, 2, 3, 4, 5, 6, 7, 8, 9, 10, 11, 12, 0, 13, 14, 15, 16, 17, 18, 19] (by decide : ([1, 2, 3, 4, 5, 6, 7, 8, 9, 10, 11, 12, 0, 13, 14, 15, 16, 17, 18, 19] : List Nat).Perm (List.range 20)) (Rs' := [wX, wO, wA, wB, wL, wH, vO, vA, vB, vL, wT, wK, wP_520, wQ, wZ, wV, wN, wU, wD, [(o, .inl (cJ, 1, .inr (.inl g)))]]) rfl rfl ?_
      refine q_eqs (st' := [.int (nI 2)]) (by rw [pk_us]) ?_
      refine q_iload C dL_law_529 531 1 rfl rfl ?_
      refine q_icmp_eq C dL_law_531 534 536 rfl (by decide) (nI_eq (by omega) (by omega)) (fun h531 => ?_) (fun h531 => False.elim (by first | omega | simp_all))
      refine q_iload C dL_law_536 538 1 rfl rfl ?_
      refine q_if_ne C dL_law_538 541 553 rfl (by decide) (q_eq0 (by omega)) (fun h538 => ?_) (fun h538 => False.elim (by first | omega | simp_all))
      refine q_goto C dL_law_553 1304 (by decide) ?_
      refine q_sub (L' := [(4, .int (nI i)), (3, .ref o), (2, .ref y), (1, .ref x), (0, .ref b)]) [2, 3, 4, 5, 6] rfl ?_
      refine q_widen (k := 80 + i + 1) (n := 6951 + 2 * i + 6) (by omega) (by omega) ?_
      exact kk _ ⟨(bx, at0, ln, sc), sv, hsn, (sb, sa, sl, ss), (nb, na, nl, ns), tx, upd (upd fd 0 (nI 0)) 0 (nI 2), g, _, _, ⟨_, _, _, _, _, _, _, _, _, _, _, _, _, _, _, _, _, _, _, _, _, _, _, _, _, rX, ⟨rO, rA, rB, rL⟩, rH, ⟨gO, gA, gB, gL⟩, rT, rK, rfl⟩, ⟨_, _, _, _, _, _, _, (zb, za, zl, zs), _, _, _, _, _, _, _, _, _, hwP_520, rQ, rZ, rV, rN, rU, rD, rfl⟩, hIv, hIs, (by rw [pk_un (by decide), pk_un (by decide)]; exact q4), (by rw [pk_un (by decide), pk_un (by decide)]; exact q8), (k_Sn_eq hsn6 (by rw [pk_un (by decide), pk_un (by decide)])), hl6, rfl⟩
      
  · refine q_aload_n C dL_law_500 501 3 rfl rfl ?_
    refine q_aload_n C dL_law_501 502 4 rfl rfl ?_
    refine q_iload C dL_law_502 504 0 rfl rfl ?_
    refine q_iconst (v := nI 1) C dL_law_504 505 rfl (by decide) ?_
    refine q_iadd (v := nI (i + 1)) C dL_law_505 506 rfl (q_nadd (by omega)) ?_
    refine q_sld (v := v) C hXb hbl hbA (i + 1) rfl (by omega) (by omega) hxv dL_law_506 507 rfl ?_
    refine q_aload_n C dL_law_507 508 1 rfl rfl ?_
    refine q_reord [0, 19, 1, 2, 3, 4, 5, 6, 7, 8, 9, 10, 11, 12, 13, 14, 15, 16, 17, 18] (by decide : ([0, 19, 1, 2, 3, 4, 5, 6, 7, 8, 9, 10, 11, 12, 13, 14, 15, 16, 17, 18] : List Nat).Perm (List.range 20)) (Rs' := [wX, [(o, .inl (cJ, 1, .inr (.inl g)))], wO, wA, wB, wL, wH, vO, vA, vB, vL, wT, wK, wP, wQ, wZ, wV, wN, wU, wD]) rfl rfl ?_
    refine q_resp (Rs' := [[wX].flatten, [(o, .inl (cJ, 1, .inr (.inl g)))], wO, wA, wB, wL, wH, vO, vA, vB, vL, wT, wK, wP, wQ, wZ, wV, wN, wU, wD]) (by simp) ?_
    refine q_callSW (n := 3) (As := [.ref x, .int v, .ref o]) (rest := []) (Rr := [wO, wA, wB, wL, wH, vO, vA, vB, vL, wT, wK, wP, wQ, wZ, wV, wN, wU, wD]) C (c_L_append_x1 l hZ hJ hXs x o v (q_hd (k_isX_recv rX)) (q_Xflat (List.append_nil _).symm (c_X6_append_a l hZ hI hN hXs hlT x aO aY aN hsn aT aK wX rX v hv)) (Nat.le_of_ble_eq_true rfl) (Nat.le_of_ble_eq_true rfl) rfl rfl g) gL_law_L_append rfl rfl rfl (by decide +kernel) B.1 ⟨Nat.le_of_ble_eq_true rfl, Nat.le_of_ble_eq_true rfl⟩ rfl rfl (Nat.le_of_ble_eq_true rfl) dL_law_508 ⟨(by show (80 + i) + 1 ≤ 601024; omega), (by show (6951 + 2 * i) + 6 ≤ 7293034; omega)⟩ [0, 1] [2, 3, 4, 5, 6, 7, 8, 9, 10, 11, 12, 13, 14, 15, 16, 17, 18, 19] (by decide : ([0, 1] ++ ([2, 3, 4, 5, 6, 7, 8, 9, 10, 11, 12, 13, 14, 15, 16, 17, 18, 19] : List Nat)).Perm (List.range 20)) rfl rfl 511 rfl (fun v0 R0 t0 ht0 hp0 => ?_)
    obtain ⟨rfl, rfl⟩ := hp0
    refine q_eqs (st' := [.int (nI 1)]) rfl ?_
    refine q_resp (Rs' := [wX, [(o, .inl (cJ, 1, .inr (.inl g)))], wO, wA, wB, wL, wH, vO, vA, vB, vL, wT, wK, wP, wQ, wZ, wV, wN, wU, wD]) (by simp) ?_
    refine q_reord [0, 2, 3, 4, 5, 6, 7, 8, 9, 10, 11, 12, 13, 14, 15, 16, 17, 18, 19, 1] (by decide : ([0, 2, 3, 4, 5, 6, 7, 8, 9, 10, 11, 12, 13, 14, 15, 16, 17, 18, 19, 1] : List Nat).Perm (List.range 20)) (Rs' := [wX, wO, wA, wB, wL, wH, vO, vA, vB, vL, wT, wK, wP, wQ, wZ, wV, wN, wU, wD, [(o, .inl (cJ, 1, .inr (.inl g)))]]) rfl rfl ?_
    refine q_istore C dL_law_511 513 rfl [(5, .int (nI 1)), (4, .int (nI i)), (3, .ref o), (2, .ref y), (1, .ref x), (0, .ref b)] (by decide) rfl ?_
    refine q_aload_n C dL_law_513 514 3 rfl rfl ?_
    refine q_aload_n C dL_law_514 515 5 rfl rfl ?_
    refine q_iload C dL_law_515 517 1 rfl rfl ?_
    refine q_iconst (v := nI 1) C dL_law_517 518 rfl (by decide) ?_
    refine q_iadd (v := nI (i + 1)) C dL_law_518 519 rfl (q_nadd (by omega)) ?_
    refine q_sld (v := v) C hXb hbl hbA (i + 1) rfl (by omega) (by omega) hxv dL_law_519 520 rfl ?_
    refine q_callV (k := 12) (ci := 6) (n := 1) (rest := []) (Rr := [wX, wO, wA, wB, wL, wH, vO, vA, vB, vL, wT, wK, wQ, wZ, wV, wN, wU, wD, [(o, .inl (cJ, 1, .inr (.inl g)))]]) C rfl (k_isP_recv rP) rfl (c_X7_append_a l hZ hI y mS mZ mV mN mU mD fd hh wP rP v hv) gL_law_X7_append rfl rfl rfl (by decide +kernel) B.1 ⟨Nat.le_of_ble_eq_true rfl, Nat.le_of_ble_eq_true rfl⟩ rfl rfl (Nat.le_of_ble_eq_true rfl) dL_law_520 ⟨(by show ((80 + i) + 1) + 0 ≤ 601024; omega), (by show ((6951 + 2 * i) + 6) + 0 ≤ 7293034; omega)⟩ [12] [0, 1, 2, 3, 4, 5, 6, 7, 8, 9, 10, 11, 13, 14, 15, 16, 17, 18, 19] (by decide : ([12] ++ ([0, 1, 2, 3, 4, 5, 6, 7, 8, 9, 10, 11, 13, 14, 15, 16, 17, 18, 19] : List Nat)).Perm (List.range 20)) rfl rfl 523 rfl (fun v0 R0 t0 ht0 hp0 => ?_)
    obtain ⟨rfl, w_520, hw_520, rfl⟩ := hp0
    refine q_eqs (st' := [.int (nI 0)]) rfl ?_
    refine q_reord [1, 2, 3, 4, 5, 6, 7, 8, 9, 10, 11, 12, 0, 13, 14, 15, 16, 17, 18, 19] (by decide : ([1, 2, 3, 4, 5, 6, 7, 8, 9, 10, 11, 12, 0, 13, 14, 15, 16, 17, 18, 19] : List Nat).Perm (List.range 20)) (Rs' := [wX, wO, wA, wB, wL, wH, vO, vA, vB, vL, wT, wK, w_520, wQ, wZ, wV, wN, wU, wD, [(o, .inl (cJ, 1, .inr (.inl g)))]]) rfl rfl ?_
    refine q_istore C dL_law_523 525 rfl [(6, .int (nI 0)), (5, .int (nI 1)), (4, .int (nI i)), (3, .ref o), (2, .ref y), (1, .ref x), (0, .ref b)] (by decide) rfl ?_
    refine q_aload_n C dL_law_525 526 4 rfl rfl ?_
    refine q_callV (k := 12) (ci := 6) (n := 0) (rest := []) (Rr := [wX, wO, wA, wB, wL, wH, vO, vA, vB, vL, wT, wK, wQ, wZ, wV, wN, wU, wD, [(o, .inl (cJ, 1, .inr (.inl g)))]]) C rfl (k_isP_recv hw_520) rfl (c_X7_thrown l hZ hI y mS mZ mV mN mU mD (upd (upd fd 0 (nI 0)) 0 (nI 1)) hh w_520 hw_520) gL_law_X7_thrown rfl rfl rfl (by decide +kernel) B.1 ⟨Nat.le_of_ble_eq_true rfl, Nat.le_of_ble_eq_true rfl⟩ rfl rfl (Nat.le_of_ble_eq_true rfl) dL_law_526 ⟨(by show ((80 + i) + 1) + 0 ≤ 601024; omega), (by show ((6951 + 2 * i) + 6) + 0 ≤ 7293034; omega)⟩ [12] [0, 1, 2, 3, 4, 5, 6, 7, 8, 9, 10, 11, 13, 14, 15, 16, 17, 18, 19] (by decide : ([12] ++ ([0, 1, 2, 3, 4, 5, 6, 7, 8, 9, 10, 11, 13, 14, 15, 16, 17, 18, 19] : List Nat)).Perm (List.range 20)) rfl rfl 529 rfl (fun v0 R0 t0 ht0 hp0 => ?_)
    obtain ⟨rfl, rfl⟩ := hp0
    refine q_eqs (st' := [.int ((upd (upd fd 0 (nI 0)) 0 (nI 1)) 0)]) rfl ?_
    refine q_reord [1, 2, 3, 4, 5, 6, 7, 8, 9, 10, 11, 12, 0, 13, 14, 15, 16, 17, 18, 19] (by decide : ([1, 2, 3, 4, 5, 6, 7, 8, 9, 10, 11, 12, 0, 13, 14, 15, 16, 17, 18, 19] : List Nat).Perm (List.range 20)) (Rs' := [wX, wO, wA, wB, wL, wH, vO, vA, vB, vL, wT, wK, w_520, wQ, wZ, wV, wN, wU, wD, [(o, .inl (cJ, 1, .inr (.inl g)))]]) rfl rfl ?_
    refine q_eqs (st' := [.int (nI 1)]) (by rw [pk_us]) ?_
    refine q_iload C dL_law_529 531 1 rfl rfl ?_
    refine q_icmp_eq C dL_law_531 534 536 rfl (by decide) (nI_eq (by omega) (by omega)) (fun h531 => ?_) (fun h531 => False.elim (by first | omega | simp_all))
    refine q_iload C dL_law_536 538 1 rfl rfl ?_
    refine q_if_ne C dL_law_538 541 553 rfl (by decide) (q_eq0 (by omega)) (fun h538 => ?_) (fun h538 => False.elim (by first | omega | simp_all))
    refine q_goto C dL_law_553 1304 (by decide) ?_
    refine q_sub (L' := [(4, .int (nI i)), (3, .ref o), (2, .ref y), (1, .ref x), (0, .ref b)]) [2, 3, 4, 5, 6] rfl ?_
    refine q_widen (k := 80 + i + 1) (n := 6951 + 2 * i + 6) (by omega) (by omega) ?_
    exact kk _ ⟨(bx, at0, ln, sc), sv, hsn, (sb, sa, sl, ss), (nb, na, nl, ns), tx, upd (upd fd 0 (nI 0)) 0 (nI 1), g, _, _, ⟨_, _, _, _, _, _, _, _, _, _, _, _, _, _, _, _, _, _, _, _, _, _, _, _, _, rX, ⟨rO, rA, rB, rL⟩, rH, ⟨gO, gA, gB, gL⟩, rT, rK, rfl⟩, ⟨_, _, _, _, _, _, _, (zb, za, zl, zs), _, _, _, _, _, _, _, _, _, hw_520, rQ, rZ, rV, rN, rU, rD, rfl⟩, hIv, hIs, (by rw [pk_un (by decide), pk_un (by decide)]; exact q4), (by rw [pk_un (by decide), pk_un (by decide)]; exact q8), (k_Sn_eq hsn6 (by rw [pk_un (by decide), pk_un (by decide)])), hl6, rfl⟩
    

set_option maxHeartbeats 1000000 in
set_option maxRecDepth 100000 in
theorem law_c7 {p9 : Program} {l : Launch} {e9 : Env} {R : Room} {s9 : State} {m9 : MethodId} {args : Array Value} {below : List Frame} {meth : Method} {c9 : Code} {Q : State → Prop} {D : va_G} {tys : List (ClassId × FieldType)} {A : Nat → Prop} {Z : (Nat → Prop) → State → Heap → Prop} {b LL : Nat} {xs : Nat → Int32} {x y o i : Nat} {Rs : List va_W} (C : q_C p9 s9 m9 args c9 cL_law 9 wsL_law RL D tys Z A) (hZ : q_St Z) {cI cG cJ : ClassId} (hI : tys[0]? = some (cI, .int)) (hG : tys[1]? = some (cG, .object "SortCases$State")) (hJ : tys[2]? = some (cJ, .long)) (hN : q_Ns Z) {ad aw av : Nat → Nat} {tK : Nat} (hKs : q_Ks Z ad aw av tK) {tL tH : Nat} (hVs : q_Vs Z tL tH) (hXs : q_Xs Z) (hlT : l.stackTraces = false) (hXb : va_X b LL xs s9 s9.heap) (hbl : b < s9.heap.size) (hbA : ¬ A b) (hR : R = ({ frames := 12, cells := 601024, slots := 7293034, locals := 454 } : Room)) (hi : i + 3 ≤ LL) (hL : LL ≤ 1536) (hRs : law_I cG cI cJ x y o Rs) (kk : ∀ Rs', law_I cG cI cJ x y o Rs' → q_V p9 l e9 R s9 m9 args below meth c9 D A 9 Q (80 + i + 1) (6951 + 2 * i + 6) 1304 [(4, .int (nI i)), (3, .ref o), (2, .ref y), (1, .ref x), (0, .ref b)] [] Rs') : q_V p9 l e9 R s9 m9 args below meth c9 D A 9 Q (80 + i) (6951 + 2 * i) 556 [(4, .int (nI i)), (3, .ref o), (2, .ref y), (1, .ref x), (0, .ref b)] [] Rs := by
  have hcI := hI
  have hcG := hG
  have B : R = ({ frames := 12, cells := 601024, slots := 7293034, locals := 454 } : Room) ∧ True := ⟨hR, trivial⟩
  have hts := C.2.2.2.2.1
  obtain ⟨⟨bx, at0, ln, sc⟩, sv, hsn, ⟨sb, sa, sl, ss⟩, ⟨nb, na, nl, ns⟩, tx, fd, g, R1, R2, ⟨aO, aY, aN, aT, aK, aB, aL, aS, naB, naL, naS, kb, ka, wX, wO, wA, wB, wL, wH, vO, vA, vB, vL, wT, wK, rX, ⟨rO, rA, rB, rL⟩, rH, ⟨gO, gA, gB, gL⟩, rT, rK, rfl⟩, ⟨mS, mZ, mV, mN, mU, mD, hh, ⟨zb, za, zl, zs⟩, dx, ps, wP, wQ, wZ, wV, wN, wU, wD, rP, rQ, rZ, rV, rN, rU, rD, rfl⟩, hIv, hIs, q4, q8, hsn6, hl6, rfl⟩ := hRs
  have rO : k_isO cI aO aB aL aS sc wO := rO
  have rA : k_isA cI aS sc wA := rA
  have rB : k_isB cI aB bx at0 wB := rB
  have rL : k_isL cI aL ln wL := rL
  have gO : k_isO cI aN naB naL naS ss vO := gO
  have gA : k_isA cI naS ss vA := gA
  have gB : k_isB cI naB sb sa vB := gB
  have gL : k_isL cI naL sl vL := gL
  have rQ : k_isQ cI mS bx at0 ln sc wQ := rQ
  have rZ : k_isQ cI mZ zb za zl zs wZ := rZ
  have rN : k_isQ cI mN nb na nl ns wN := rN
  have hll : ln.length ≤ 40 := rL.1.1
  have htl : tx.length ≤ 60 := rT.1.1
  obtain ⟨v, hxv⟩ : ∃ v, xs (i + 1) = v := ⟨_, rfl⟩
  obtain ⟨v2, hxv2⟩ : ∃ v2, xs (i + 2) = v2 := ⟨_, rfl⟩
  refine q_eqR (Rs' := [wX, wO, wA, wB, wL, wH, vO, vA, vB, vL, wT, wK, wP, wQ, wZ, wV, wN, wU, wD, [(o, .inl (cJ, 1, .inr (.inl g)))]]) rfl ?_
  refine q_aload_n C dL_law_556 557 3 rfl rfl ?_
  refine q_callV (k := 0) (ci := 5) (n := 0) (rest := []) (Rr := [wO, wA, wB, wL, wH, vO, vA, vB, vL, wK, wP, wQ, wZ, wV, wN, wU, wD, [(o, .inl (cJ, 1, .inr (.inl g)))]]) C rfl (k_isX_recv rX) rfl (c_X6_clearBuffer l hZ hI hN x aO aY aN hsn aT aK wX rX tx wT rT) gL_law_X6_clearBuffer rfl rfl rfl (by decide +kernel) B.1 ⟨Nat.le_of_ble_eq_true rfl, Nat.le_of_ble_eq_true rfl⟩ rfl rfl (Nat.le_of_ble_eq_true rfl) dL_law_557 ⟨(by show (80 + i) + 0 ≤ 601024; omega), (by show (6951 + 2 * i) + 0 ≤ 7293034; omega)⟩ [0, 10] [1, 2, 3, 4, 5, 6, 7, 8, 9, 11, 12, 13, 14, 15, 16, 17, 18, 19] (by decide : ([0, 10] ++ ([1, 2, 3, 4, 5, 6, 7, 8, 9, 11, 12, 13, 14, 15, 16, 17, 18, 19] : List Nat)).Perm (List.range 20)) rfl rfl 560 rfl (fun v0 R0 t0 ht0 hp0 => ?_)
  obtain ⟨rfl, wT_557, hwT_557, rfl⟩ := hp0
  refine q_eqs (st' := [.int (nI tx.length)]) rfl ?_
  refine q_reord [0, 2, 3, 4, 5, 6, 7, 8, 9, 10, 1, 11, 12, 13, 14, 15, 16, 17, 18, 19] (by decide : ([0, 2, 3, 4, 5, 6, 7, 8, 9, 10, 1, 11, 12, 13, 14, 15, 16, 17, 18, 19] : List Nat).Perm (List.range 20)) (Rs' := [wX, wO, wA, wB, wL, wH, vO, vA, vB, vL, wT_557, wK, wP, wQ, wZ, wV, wN, wU, wD, [(o, .inl (cJ, 1, .inr (.inl g)))]]) rfl rfl ?_
  refine q_aload_n C dL_law_560 561 2 rfl rfl ?_
  refine q_callV (k := 12) (ci := 6) (n := 0) (rest := [.int (nI tx.length)]) (Rr := [wX, wO, wA, wB, wL, wH, vO, vA, vB, vL, wT_557, wK, wQ, wZ, wV, wN, wD, [(o, .inl (cJ, 1, .inr (.inl g)))]]) C rfl (k_isP_recv rP) rfl (c_X7_clearBuffer l hZ hI y mS mZ mV mN mU mD fd hh wP rP tx wU rU q8) gL_law_X7_clearBuffer rfl rfl rfl (by decide +kernel) B.1 ⟨Nat.le_of_ble_eq_true rfl, Nat.le_of_ble_eq_true rfl⟩ rfl rfl (Nat.le_of_ble_eq_true rfl) dL_law_561 ⟨(by show (80 + i) + 0 ≤ 601024; omega), (by show (6951 + 2 * i) + 0 ≤ 7293034; omega)⟩ [12, 17] [0, 1, 2, 3, 4, 5, 6, 7, 8, 9, 10, 11, 13, 14, 15, 16, 18, 19] (by decide : ([12, 17] ++ ([0, 1, 2, 3, 4, 5, 6, 7, 8, 9, 10, 11, 13, 14, 15, 16, 18, 19] : List Nat)).Perm (List.range 20)) rfl rfl 564 rfl (fun v0 R0 t0 ht0 hp0 => ?_)
  obtain ⟨rfl, wP_561, hwP_561, wU_561, hwU_561, rfl⟩ := hp0
  refine q_eqs (st' := [.int (nI tx.length), .int (nI tx.length)]) rfl ?_
  refine q_reord [2, 3, 4, 5, 6, 7, 8, 9, 10, 11, 12, 13, 0, 14, 15, 16, 17, 1, 18, 19] (by decide : ([2, 3, 4, 5, 6, 7, 8, 9, 10, 11, 12, 13, 0, 14, 15, 16, 17, 1, 18, 19] : List Nat).Perm (List.range 20)) (Rs' := [wX, wO, wA, wB, wL, wH, vO, vA, vB, vL, wT_557, wK, wP_561, wQ, wZ, wV, wN, wU_561, wD, [(o, .inl (cJ, 1, .inr (.inl g)))]]) rfl rfl ?_
  refine q_icmp_eq C dL_law_564 567 1304 rfl (by decide) (nI_eq (by omega) (by omega)) (fun h564 => ?_) (fun h564 => False.elim (by first | omega | simp_all))
  refine q_sub (L' := [(4, .int (nI i)), (3, .ref o), (2, .ref y), (1, .ref x), (0, .ref b)]) [0, 1, 2, 3, 4] rfl ?_
  refine q_widen (k := 80 + i + 1) (n := 6951 + 2 * i + 6) (by omega) (by omega) ?_
  exact kk _ ⟨(bx, at0, ln, sc), sv, hsn, (sb, sa, sl, ss), (nb, na, nl, ns), [], upd (upd fd 0 (nI 0)) 8 (nI 0), g, _, _, ⟨_, _, _, _, _, _, _, _, _, _, _, _, _, _, _, _, _, _, _, _, _, _, _, _, _, rX, ⟨rO, rA, rB, rL⟩, rH, ⟨gO, gA, gB, gL⟩, hwT_557, rK, rfl⟩, ⟨_, _, _, _, _, _, _, (zb, za, zl, zs), _, _, _, _, _, _, _, _, _, hwP_561, rQ, rZ, rV, rN, hwU_561, rD, rfl⟩, hIv, hIs, (by rw [pk_un (by decide), pk_un (by decide)]; exact q4), (by rw [pk_us]; rfl), (k_Sn_eq hsn6 (by rw [pk_un (by decide), pk_un (by decide)])), hl6, rfl⟩
  
