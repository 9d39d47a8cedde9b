/-! THE LAW'S LOOP -/
theorem k_nw_in {sv sw : List k_S} (h : 0 < sw.length) (hs : ∀ T ∈ sw, T ∈ sv) : k_nw sw ∈ sv := hs _ (List.mem_of_getElem? (k_nw_at h))
theorem k_aV_len {sv : List k_S} {S : k_S} {o : Option (Int32 × k_S)} (h : ¬ o = none) (hl : sv.length ≤ 5) : (k_aV sv S o).length = sv.length + 1 := by
  cases o with
  | none => exact absurd rfl h
  | some q => exact k_sav_le hl
theorem k_nw_aV {sv : List k_S} {S : k_S} {o : Option (Int32 × k_S)} (h : ¬ o = none) : k_nw (k_aV sv S o) = S := by
  cases o with
  | none => exact absurd rfl h
  | some q => exact k_nw_sav sv S
theorem k_aV_dl {sv : List k_S} {S : k_S} {o : Option (Int32 × k_S)} (h : ¬ o = none) (hl : sv.length ≤ 5) : (k_aV sv S o).dropLast = sv := by
  cases o with
  | none => exact absurd rfl h
  | some q => exact k_sav_dl hl
theorem k_aV_all {sv : List k_S} {S : k_S} {o : Option (Int32 × k_S)} (hs : ∀ T ∈ sv, k_Jv T) (hS : k_Jv S) : ∀ T ∈ k_aV sv S o, k_Jv T := by
  cases o with
  | none => exact hs
  | some q =>
    intro T hT
    have hT : T ∈ k_sav sv S := hT
    unfold k_sav at hT
    rcases List.mem_append.mp hT with h1 | h1
    · split at h1
      · exact hs T (List.mem_of_mem_drop h1)
      · exact hs T h1
    · rw [List.mem_singleton.mp h1]
      exact hS
set_option maxHeartbeats 1000000 in
set_option maxRecDepth 100000 in
theorem law_loop {p9 : Program} {l : Launch} {e9 : Env} {R : Room} {s9 : State} {m9 : MethodId} {args : Array Value} {below : List Frame} {meth : Method} {c9 : Code} {Q : State → Prop} {D : va_G} {tys : List (ClassId × FieldType)} {A : Nat → Prop} {Z : (Nat → Prop) → State → Heap → Prop} {b LL : Nat} {xs : Nat → Int32} (C : q_C p9 s9 m9 args c9 cL_law 12 wsL_law RL D tys Z A) (hZ : q_St Z) {cI cG : ClassId} (hI : tys[0]? = some (cI, .int)) (hG : tys[1]? = some (cG, .object "SortCases$State")) (hN : q_Ns Z) {tL tH : Nat} (hVs : q_Vs Z tL tH) (hSc : q_Sc Z b LL xs) (hR : R = ({ frames := 11, cells := 600172, slots := 7300668, locals := 396 } : Room)) (hLL : LL ≤ 260) {x aO aY aN aT aK aB aL aS naB naL naS aR : Nat} {bx0 : k_Bx} {az0 : Nat} {ln0 : List (Nat × Nat)} {sc0 : Nat → Int32} {sv0 : List k_S} {sb : k_Bx} {sa : Nat} {sl : List (Nat × Nat)} {ss : Nat → Int32} {tx : List Nat} {kb0 : k_Bx} {ka0 : Nat} {wX : va_W} {wO0 : va_W} {wA0 : va_W} {wB0 : va_W} {wL0 : va_W} {wH0 : va_W} {vO : va_W} {vA : va_W} {vB : va_W} {vL : va_W} {wT : va_W} {wK0 : va_W} {wAr0 : va_W} (rX : k_isX cI x aO aY aN ((nI 1)) aT aK wX) (rO0 : k_isO cI aO aB aL aS sc0 wO0) (rA0 : k_isA cI aS sc0 wA0) (rB0 : k_isB cI aB bx0 az0 wB0) (rL0 : k_isL cI aL ln0 wL0) (rH0 : k_isH cG cI aY sv0 wH0) (gO : k_isO cI aN naB naL naS ss vO) (gA : k_isA cI naS ss vA) (gB : k_isB cI naB sb sa vB) (gL : k_isL cI naL sl vL) (rT : k_isT cI aT tx wT) (rK0 : k_isB cI aK kb0 ka0 wK0) (rAr0 : k_isAr cI aR 1 wAr0) (hJ0 : k_Jv (bx0, az0, ln0, sc0)) (hs0 : ∀ T ∈ sv0, k_Jv T) (hl0 : sv0.length ≤ 5) (hJn : k_Jv (sb, sa, sl, ss)) (kx : ∀ Rs', q_V p9 l e9 R s9 m9 args below meth c9 D A 12 Q 600172 7300668 272 [(0, .ref b)] [] Rs') : q_V p9 l e9 R s9 m9 args below meth c9 D A 12 Q 73 3672 49 [(3, .int (nI 0)), (2, .ref aR), (1, .ref x), (0, .ref b)] [] [wX, wO0, wA0, wB0, wL0, wH0, vO, vA, vB, vL, wT, wK0, wAr0] := by
  have hcI := hI
  have hcG := hG
  have B : R = ({ frames := 11, cells := 600172, slots := 7300668, locals := 396 } : Room) ∧ True := ⟨hR, trivial⟩
  have hts := C.2.2.2.2.1
  have lp : ∀ (kk : Nat) (i : Nat) (bx : k_Bx) (az : Nat) (ln : List (Nat × Nat)) (sc : Nat → Int32) (sv : List k_S) (wO : va_W) (wA : va_W) (wB : va_W) (wL : va_W) (wH : va_W) (wK : va_W) (kb : k_Bx) (ka : Nat) (wAr : va_W), 36 - i < kk → ∀ (hi : i ≤ 36), ∀ (rO : k_isO cI aO aB aL aS sc wO), ∀ (rA : k_isA cI aS sc wA), ∀ (rB : k_isB cI aB bx az wB), ∀ (rL : k_isL cI aL ln wL), ∀ (rH : k_isH cG cI aY sv wH), ∀ (rK : k_isB cI aK kb ka wK), ∀ (rAr : k_isAr cI aR 1 wAr), ∀ (hJ : k_Jv (bx, az, ln, sc)), ∀ (hs : ∀ T ∈ sv, k_Jv T), ∀ (hl : sv.length ≤ 5), q_V p9 l e9 R s9 m9 args below meth c9 D A 12 Q 73 3672 49 [(3, .int (nI i)), (2, .ref aR), (1, .ref x), (0, .ref b)] [] [wX, wO, wA, wB, wL, wH, vO, vA, vB, vL, wT, wK, wAr] := by
    intro kk
    induction kk with
    | zero => intro i bx az ln sc sv wO wA wB wL wH wK kb ka wAr hkk; exact absurd hkk (Nat.not_lt_zero _)
    | succ kk ih_lp =>
      intro i bx az ln sc sv wO wA wB wL wH wK kb ka wAr hkk hi rO rA rB rL rH rK rAr hJ hs hl
      have hll := rL.1.1
      refine q_iload_n C dL_law_49 50 0 rfl rfl ?_
      refine q_bipush (v := nI 36) C dL_law_50 52 rfl (by decide) ?_
      refine q_icmp_ge C dL_law_52 55 272 rfl (by decide) (nI_leI (by omega) (by omega)) (fun h52 => ?_) (fun h52 => ?_)
      · refine q_sub (L' := [(0, .ref b)]) [3] rfl ?_
        refine q_widen (k := 600172) (n := 7300668) (Nat.le_of_ble_eq_true rfl) (Nat.le_of_ble_eq_true rfl) ?_
        exact kx _
        
      · have j72 : ∀ (v : Int32), q_V p9 l e9 R s9 m9 args below meth c9 D A 12 Q 73 3672 72 [(3, .int (nI i)), (2, .ref aR), (1, .ref x), (0, .ref b)] [.int v] [wX, wO, wA, wB, wL, wH, vO, vA, vB, vL, wT, wK, wAr] := by
          intro v
          refine q_istore C dL_law_72 74 rfl [(4, .int v), (3, .int (nI i)), (2, .ref aR), (1, .ref x), (0, .ref b)] (by decide) rfl ?_
          refine q_aload_n C dL_law_74 75 4 rfl rfl ?_
          refine q_iconst (v := nI 2) C dL_law_75 76 rfl (by decide) ?_
          refine q_iload_n C dL_law_76 77 1 rfl rfl ?_
          refine q_imul (v := nI (2 * i)) C dL_law_77 78 rfl (q_nmul (by omega)) ?_
          refine q_iconst (v := nI 1) C dL_law_78 79 rfl (by decide) ?_
          refine q_iadd (v := nI (2 * i + 1)) C dL_law_79 80 rfl (q_nadd (by omega)) ?_
          refine q_callS (n := 2) (rest := []) (Rr := [wX, wO, wA, wB, wL, wH, vO, vA, vB, vL, wT, wK, wAr]) C (c_L_cell l hZ hI b (2 * i + 1) LL xs hSc (by omega) (by omega)) gL_law_L_cell rfl rfl rfl (by decide +kernel) B.1 ⟨Nat.le_of_ble_eq_true rfl, Nat.le_of_ble_eq_true rfl⟩ rfl rfl (Nat.le_of_ble_eq_true rfl) dL_law_80 ⟨(Nat.le_of_ble_eq_true rfl), (Nat.le_of_ble_eq_true rfl)⟩ [] [0, 1, 2, 3, 4, 5, 6, 7, 8, 9, 10, 11, 12] (by decide : ([] ++ ([0, 1, 2, 3, 4, 5, 6, 7, 8, 9, 10, 11, 12] : List Nat)).Perm (List.range 13)) rfl rfl 83 rfl (fun v0 R0 t0 ht0 hp0 => ?_)
          obtain ⟨rfl, rfl⟩ := hp0
          refine q_eqs (st' := [.int (k_cell xs LL (2 * i + 1))]) rfl ?_
          refine q_eqR (Rs' := [wX, wO, wA, wB, wL, wH, vO, vA, vB, vL, wT, wK, wAr]) rfl ?_
          refine q_istore C dL_law_83 85 rfl [(5, .int (k_cell xs LL (2 * i + 1))), (4, .int v), (3, .int (nI i)), (2, .ref aR), (1, .ref x), (0, .ref b)] (by decide) rfl ?_
          have j105 : ∀ (bxp : k_Bx) (azp : Nat) (lnp : List (Nat × Nat)) (scp : Nat → Int32) (svp : List k_S) (wOp : va_W) (wAp : va_W) (wBp : va_W) (wLp : va_W) (wHp : va_W) (w : Int32), ∀ (rOp : k_isO cI aO aB aL aS scp wOp), ∀ (rAp : k_isA cI aS scp wAp), ∀ (rBp : k_isB cI aB bxp azp wBp), ∀ (rLp : k_isL cI aL lnp wLp), ∀ (rHp : k_isH cG cI aY svp wHp), ∀ (hJp : k_Jv (bxp, azp, lnp, scp)), ∀ (hsp : ∀ T ∈ svp, k_Jv T), ∀ (hlp : svp.length ≤ 4), q_V p9 l e9 R s9 m9 args below meth c9 D A 12 Q 73 3672 105 [(5, .int w), (4, .int v), (3, .int (nI i)), (2, .ref aR), (1, .ref x), (0, .ref b)] [] [wX, wOp, wAp, wBp, wLp, wHp, vO, vA, vB, vL, wT, wK, wAr] := by
            intro bxp azp lnp scp svp wOp wAp wBp wLp wHp w rOp rAp rBp rLp rHp hJp hsp hlp
            have hllp := rLp.1.1
            refine q_aload_n C dL_law_105 106 4 rfl rfl ?_
            refine q_bipush (v := nI 17) C dL_law_106 108 rfl (by decide) ?_
            refine q_callV (k := 0) (ci := 5) (n := 1) (rest := []) (Rr := [vO, vA, vB, vL, wT, wK, wAr]) C rfl (k_isX_recv rX) rfl (c_X6_count_h l hZ hI hN hG x aO aY aN ((nI 1)) aT aK wX rX aB aL aS scp wOp rOp wAp rAp bxp azp wBp rBp lnp wLp rLp svp wHp rHp 17 (by omega) (k_Cv_cs (S := (bxp, azp, lnp, scp)) hJp.1.2) (k_Cv_ws (S := (bxp, azp, lnp, scp)) hJp.1.1.1.2.1 hJp.1.2)) gL_law_X6_count rfl rfl rfl (by decide +kernel) B.1 ⟨Nat.le_of_ble_eq_true rfl, Nat.le_of_ble_eq_true rfl⟩ rfl rfl (Nat.le_of_ble_eq_true rfl) dL_law_108 ⟨(Nat.le_of_ble_eq_true rfl), (Nat.le_of_ble_eq_true rfl)⟩ [0, 1, 2, 3, 4, 5] [6, 7, 8, 9, 10, 11, 12] (by decide : ([0, 1, 2, 3, 4, 5] ++ ([6, 7, 8, 9, 10, 11, 12] : List Nat)).Perm (List.range 13)) rfl rfl 111 rfl (fun v0 R0 t0 ht0 hp0 => ?_)
            obtain ⟨rfl, rfl⟩ := hp0
            refine q_eqs (st' := [.int (k_tc bxp azp lnp scp svp.length 17)]) rfl ?_
            refine q_eqR (Rs' := [wX, wOp, wAp, wBp, wLp, wHp, vO, vA, vB, vL, wT, wK, wAr]) rfl ?_
            refine q_eqs (st' := [.int (nI svp.length)]) (by rw [show k_tc bxp azp lnp scp svp.length 17 = nI svp.length from rfl]) ?_
            refine q_istore C dL_law_111 113 rfl [(6, .int (nI svp.length)), (5, .int w), (4, .int v), (3, .int (nI i)), (2, .ref aR), (1, .ref x), (0, .ref b)] (by decide) rfl ?_
            refine q_aload_n C dL_law_113 114 5 rfl rfl ?_
            refine q_callS (n := 1) (rest := []) (Rr := [vO, vA, vB, vL, wT, wK, wAr]) C (c_L_told l hZ hI hN hG x aO aY aN ((nI 1)) aT aK wX rX aB aL aS scp wOp rOp wAp rAp bxp azp wBp rBp lnp wLp rLp svp wHp rHp (k_Cv_cs (S := (bxp, azp, lnp, scp)) hJp.1.2) (k_Cv_ws (S := (bxp, azp, lnp, scp)) hJp.1.1.1.2.1 hJp.1.2)) gL_law_L_told rfl rfl rfl (by decide +kernel) B.1 ⟨Nat.le_of_ble_eq_true rfl, Nat.le_of_ble_eq_true rfl⟩ rfl rfl (Nat.le_of_ble_eq_true rfl) dL_law_114 ⟨(Nat.le_of_ble_eq_true rfl), (Nat.le_of_ble_eq_true rfl)⟩ [0, 1, 2, 3, 4, 5] [6, 7, 8, 9, 10, 11, 12] (by decide : ([0, 1, 2, 3, 4, 5] ++ ([6, 7, 8, 9, 10, 11, 12] : List Nat)).Perm (List.range 13)) rfl rfl 117 rfl (fun v0 R0 t0 ht0 hp0 => ?_)
            obtain ⟨rfl, rfl⟩ := hp0
            refine q_eqs (st' := [.long (k_told (bxp, azp, lnp, scp))]) rfl ?_
            refine q_eqR (Rs' := [wX, wOp, wAp, wBp, wLp, wHp, vO, vA, vB, vL, wT, wK, wAr]) rfl ?_
            refine q_lstore C dL_law_117 119 rfl [(7, .long (k_told (bxp, azp, lnp, scp))), (6, .int (nI svp.length)), (5, .int w), (4, .int v), (3, .int (nI i)), (2, .ref aR), (1, .ref x), (0, .ref b)] (by decide) rfl ?_
            refine q_aload_n C dL_law_119 120 6 rfl rfl ?_
            refine q_iload C dL_law_120 122 3 rfl rfl ?_
            refine q_iload C dL_law_122 124 2 rfl rfl ?_
            refine q_callS (n := 3) (rest := []) (Rr := [wT, wK, wAr]) C (c_L_act_A l hZ hI hN hG hVs x aO aY aN ((nI 1)) aT aK wX rX aB aL aS scp wOp rOp wAp rAp bxp azp wBp rBp lnp wLp rLp svp wHp rHp naB naL naS ss vO gO vA gA sb sa vB gB sl vL gL v w hJp.1 hJp.2 rfl) gL_law_L_act rfl rfl rfl (by decide +kernel) B.1 ⟨Nat.le_of_ble_eq_true rfl, Nat.le_of_ble_eq_true rfl⟩ rfl rfl (Nat.le_of_ble_eq_true rfl) dL_law_124 ⟨(Nat.le_of_ble_eq_true rfl), (Nat.le_of_ble_eq_true rfl)⟩ [0, 1, 2, 3, 4, 5, 6, 7, 8, 9] [10, 11, 12] (by decide : ([0, 1, 2, 3, 4, 5, 6, 7, 8, 9] ++ ([10, 11, 12] : List Nat)).Perm (List.range 13)) rfl rfl 127 rfl (fun v0 R0 t0 ht0 hp0 => ?_)
            obtain ⟨rfl, wO_124, hwO_124, wA_124, hwA_124, wB_124, hwB_124, wL_124, hwL_124, wH_124, hwH_124, rfl⟩ := hp0
            refine q_eqs (st' := [.int (k_aR (k_act (bxp, azp, lnp, scp) (sb, sa, sl, ss) v w))]) rfl ?_
            refine q_eqR (Rs' := [wX, wO_124, wA_124, wB_124, wL_124, wH_124, vO, vA, vB, vL, wT, wK, wAr]) rfl ?_
            have hJ2 := k_aS_J (v := v) (w := w) hJp hJn
            refine q_istore C dL_law_127 129 rfl [(9, .int (k_aR (k_act (bxp, azp, lnp, scp) (sb, sa, sl, ss) v w))), (7, .long (k_told (bxp, azp, lnp, scp))), (6, .int (nI svp.length)), (5, .int w), (4, .int v), (3, .int (nI i)), (2, .ref aR), (1, .ref x), (0, .ref b)] (by decide) rfl ?_
            refine q_aload_n C dL_law_129 130 7 rfl rfl ?_
            refine q_callS (n := 1) (rest := []) (Rr := [vO, vA, vB, vL, wT, wK, wAr]) C (c_L_told l hZ hI hN hG x aO aY aN ((nI 1)) aT aK wX rX aB aL aS ((k_aS (bxp, azp, lnp, scp) (k_act (bxp, azp, lnp, scp) (sb, sa, sl, ss) v w)).2.2.2) wO_124 hwO_124 wA_124 hwA_124 ((k_aS (bxp, azp, lnp, scp) (k_act (bxp, azp, lnp, scp) (sb, sa, sl, ss) v w)).1) ((k_aS (bxp, azp, lnp, scp) (k_act (bxp, azp, lnp, scp) (sb, sa, sl, ss) v w)).2.1) wB_124 hwB_124 ((k_aS (bxp, azp, lnp, scp) (k_act (bxp, azp, lnp, scp) (sb, sa, sl, ss) v w)).2.2.1) wL_124 hwL_124 ((k_aV svp (bxp, azp, lnp, scp) (k_act (bxp, azp, lnp, scp) (sb, sa, sl, ss) v w))) wH_124 hwH_124 (k_Cv_cs (S := (k_aS (bxp, azp, lnp, scp) (k_act (bxp, azp, lnp, scp) (sb, sa, sl, ss) v w))) hJ2.1.2) (k_Cv_ws (S := (k_aS (bxp, azp, lnp, scp) (k_act (bxp, azp, lnp, scp) (sb, sa, sl, ss) v w))) hJ2.1.1.1.2.1 hJ2.1.2)) gL_law_L_told rfl rfl rfl (by decide +kernel) B.1 ⟨Nat.le_of_ble_eq_true rfl, Nat.le_of_ble_eq_true rfl⟩ rfl rfl (Nat.le_of_ble_eq_true rfl) dL_law_130 ⟨(Nat.le_of_ble_eq_true rfl), (Nat.le_of_ble_eq_true rfl)⟩ [0, 1, 2, 3, 4, 5] [6, 7, 8, 9, 10, 11, 12] (by decide : ([0, 1, 2, 3, 4, 5] ++ ([6, 7, 8, 9, 10, 11, 12] : List Nat)).Perm (List.range 13)) rfl rfl 133 rfl (fun v0 R0 t0 ht0 hp0 => ?_)
            obtain ⟨rfl, rfl⟩ := hp0
            refine q_eqs (st' := [.long (k_told (((k_aS (bxp, azp, lnp, scp) (k_act (bxp, azp, lnp, scp) (sb, sa, sl, ss) v w)).1), ((k_aS (bxp, azp, lnp, scp) (k_act (bxp, azp, lnp, scp) (sb, sa, sl, ss) v w)).2.1), ((k_aS (bxp, azp, lnp, scp) (k_act (bxp, azp, lnp, scp) (sb, sa, sl, ss) v w)).2.2.1), ((k_aS (bxp, azp, lnp, scp) (k_act (bxp, azp, lnp, scp) (sb, sa, sl, ss) v w)).2.2.2)))]) rfl ?_
            refine q_eqR (Rs' := [wX, wO_124, wA_124, wB_124, wL_124, wH_124, vO, vA, vB, vL, wT, wK, wAr]) rfl ?_
            refine q_eqs (st' := [.long (k_told (k_aS (bxp, azp, lnp, scp) (k_act (bxp, azp, lnp, scp) (sb, sa, sl, ss) v w)))]) rfl ?_
            refine q_lstore C dL_law_133 135 rfl [(10, .long (k_told (k_aS (bxp, azp, lnp, scp) (k_act (bxp, azp, lnp, scp) (sb, sa, sl, ss) v w)))), (9, .int (k_aR (k_act (bxp, azp, lnp, scp) (sb, sa, sl, ss) v w))), (7, .long (k_told (bxp, azp, lnp, scp))), (6, .int (nI svp.length)), (5, .int w), (4, .int v), (3, .int (nI i)), (2, .ref aR), (1, .ref x), (0, .ref b)] (by decide) rfl ?_
            have j240 : ∀ (bxq : k_Bx) (azq : Nat) (lnq : List (Nat × Nat)) (scq : Nat → Int32) (svq : List k_S) (wOq : va_W) (wAq : va_W) (wBq : va_W) (wLq : va_W) (wHq : va_W), ∀ (rOq : k_isO cI aO aB aL aS scq wOq), ∀ (rAq : k_isA cI aS scq wAq), ∀ (rBq : k_isB cI aB bxq azq wBq), ∀ (rLq : k_isL cI aL lnq wLq), ∀ (rHq : k_isH cG cI aY svq wHq), ∀ (hJq : k_Jv (bxq, azq, lnq, scq)), ∀ (hsq : ∀ T ∈ svq, k_Jv T), ∀ (hlq : svq.length ≤ 5), q_V p9 l e9 R s9 m9 args below meth c9 D A 12 Q 73 3672 240 [(5, .int w), (3, .int (nI i)), (2, .ref aR), (1, .ref x), (0, .ref b)] [] [wX, wOq, wAq, wBq, wLq, wHq, vO, vA, vB, vL, wT, wK, wAr] := by
              intro bxq azq lnq scq svq wOq wAq wBq wLq wHq rOq rAq rBq rLq rHq hJq hsq hlq
              have hllq := rLq.1.1
              refine q_aload_n C dL_law_240 241 3 rfl rfl ?_
              refine q_aload_n C dL_law_241 242 2 rfl rfl ?_
              refine q_callS (n := 2) (rest := []) (Rr := [vO, vA, vB, vL, wT]) C (c_L_holds l hZ hI hN hG x aO aY aN ((nI 1)) aT aK wX rX aB aL aS scq wOq rOq wAq rAq bxq azq wBq rBq lnq wLq rLq svq wHq rHq kb ka wK rK aR 1 wAr rAr hJq.1) gL_law_L_holds rfl rfl rfl (by decide +kernel) B.1 ⟨Nat.le_of_ble_eq_true rfl, Nat.le_of_ble_eq_true rfl⟩ rfl rfl (Nat.le_of_ble_eq_true rfl) dL_law_242 ⟨(Nat.le_of_ble_eq_true rfl), (Nat.le_of_ble_eq_true rfl)⟩ [0, 1, 2, 3, 4, 5, 11, 12] [6, 7, 8, 9, 10] (by decide : ([0, 1, 2, 3, 4, 5, 11, 12] ++ ([6, 7, 8, 9, 10] : List Nat)).Perm (List.range 13)) rfl rfl 245 rfl (fun v0 R0 t0 ht0 hp0 => ?_)
              obtain ⟨rfl, wk_242, hwk_242, wAr_242, hwAr_242, rfl⟩ := hp0
              refine q_eqs (st' := [.int (q_b true)]) rfl ?_
              refine q_reord [0, 1, 2, 3, 4, 5, 8, 9, 10, 11, 12, 6, 7] (by decide : ([0, 1, 2, 3, 4, 5, 8, 9, 10, 11, 12, 6, 7] : List Nat).Perm (List.range 13)) (Rs' := [wX, wOq, wAq, wBq, wLq, wHq, vO, vA, vB, vL, wT, wk_242, wAr_242]) rfl rfl ?_
              refine q_if_eq (P := true = false) C dL_law_245 248 264 rfl (by decide) q_b0 (fun h245 => False.elim (by cases h245)) (fun h245 => ?_)
              refine q_aload_n C dL_law_248 249 3 rfl rfl ?_
              refine q_iload C dL_law_249 251 0 rfl rfl ?_
              refine q_iconst (v := nI 2) C dL_law_251 252 rfl (by decide) ?_
              refine q_ishr (v := w >>> 2) C dL_law_252 253 rfl (by rw [show nI 2 &&& 31 = (2 : Int32) by decide]) ?_
              refine q_bipush (v := nI 12) C dL_law_253 255 rfl (by decide) ?_
              refine q_callS (n := 2) (rest := [.ref x]) (Rr := [wX, wOq, wAq, wBq, wLq, wHq, vO, vA, vB, vL, wT, wk_242, wAr_242]) C (c_L_low l hZ hI (w >>> 2) 12 (by omega) (by omega)) gL_law_L_low rfl rfl rfl (by decide +kernel) B.1 ⟨Nat.le_of_ble_eq_true rfl, Nat.le_of_ble_eq_true rfl⟩ rfl rfl (Nat.le_of_ble_eq_true rfl) dL_law_255 ⟨(Nat.le_of_ble_eq_true rfl), (Nat.le_of_ble_eq_true rfl)⟩ [] [0, 1, 2, 3, 4, 5, 6, 7, 8, 9, 10, 11, 12] (by decide : ([] ++ ([0, 1, 2, 3, 4, 5, 6, 7, 8, 9, 10, 11, 12] : List Nat)).Perm (List.range 13)) rfl rfl 258 rfl (fun v0 R0 t0 ht0 hp0 => ?_)
              obtain ⟨rfl, rfl⟩ := hp0
              refine q_eqs (st' := [.int (nI (k_low (w >>> 2) 12)), .ref x]) rfl ?_
              refine q_eqR (Rs' := [wX, wOq, wAq, wBq, wLq, wHq, vO, vA, vB, vL, wT, wk_242, wAr_242]) rfl ?_
              have hlw255 : k_low (w >>> 2) 12 < 12 := k_low_lt (by omega)
              refine q_callS (n := 2) (rest := []) (Rr := [vO, vA, vB, vL, wT, wk_242, wAr_242]) C (c_L_isHand l hZ hI hN hG x aO aY aN ((nI 1)) aT aK wX rX aB aL aS scq wOq rOq wAq rAq bxq azq wBq rBq lnq wLq rLq svq wHq rHq (k_low (w >>> 2) 12) hJq.1 hlq (by omega)) gL_law_L_isHand rfl rfl rfl (by decide +kernel) B.1 ⟨Nat.le_of_ble_eq_true rfl, Nat.le_of_ble_eq_true rfl⟩ rfl rfl (Nat.le_of_ble_eq_true rfl) dL_law_258 ⟨(Nat.le_of_ble_eq_true rfl), (Nat.le_of_ble_eq_true rfl)⟩ [0, 1, 2, 3, 4, 5] [6, 7, 8, 9, 10, 11, 12] (by decide : ([0, 1, 2, 3, 4, 5] ++ ([6, 7, 8, 9, 10, 11, 12] : List Nat)).Perm (List.range 13)) rfl rfl 261 rfl (fun v0 R0 t0 ht0 hp0 => ?_)
              obtain ⟨rfl, wO_258, hwO_258, wA_258, hwA_258, wB_258, hwB_258, wL_258, hwL_258, wH_258, hwH_258, rfl⟩ := hp0
              refine q_eqs (st' := [.int (q_b true)]) rfl ?_
              refine q_eqR (Rs' := [wX, wO_258, wA_258, wB_258, wL_258, wH_258, vO, vA, vB, vL, wT, wk_242, wAr_242]) rfl ?_
              refine q_if_ne (P := true = false) C dL_law_261 264 266 rfl (by decide) q_b0 (fun h261 => ?_) (fun h261 => False.elim (by cases h261))
              refine q_iinc (v := nI (i + 1)) C dL_law_266 269 1 rfl rfl (q_ninc1 (by omega)) [(3, .int (nI (i + 1))), (5, .int w), (2, .ref aR), (1, .ref x), (0, .ref b)] (by decide) rfl ?_
              refine q_goto C dL_law_269 49 (by decide) ?_
              refine q_sub (L' := [(3, .int (nI (i + 1))), (2, .ref aR), (1, .ref x), (0, .ref b)]) [0, 2, 3, 4] rfl ?_
              exact ih_lp (i + 1) bxq azq lnq scq svq wO_258 wA_258 wB_258 wL_258 wH_258 wk_242 ((k_bs bxq azq (-1) (k_T bxq azq)).1) ((k_bs bxq azq (-1) (k_T bxq azq)).2) wAr_242 (by omega) (by omega) hwO_258 hwA_258 hwB_258 hwL_258 hwH_258 hwk_242 hwAr_242 hJq hsq hlq
            by_cases eo : (k_act (bxp, azp, lnp, scp) (sb, sa, sl, ss) v w) = none
            · have rOn : k_isO cI aO aB aL aS scp wO_124 := by have h9 := hwO_124; rw [eo] at h9; exact h9
              have rAn : k_isA cI aS scp wA_124 := by have h9 := hwA_124; rw [eo] at h9; exact h9
              have rBn : k_isB cI aB bxp azp wB_124 := by have h9 := hwB_124; rw [eo] at h9; exact h9
              have rLn : k_isL cI aL lnp wL_124 := by have h9 := hwL_124; rw [eo] at h9; exact h9
              have rHn : k_isH cG cI aY svp wH_124 := by have h9 := hwH_124; rw [eo] at h9; exact h9
              refine q_eqL (L' := [(10, .long (k_told (bxp, azp, lnp, scp))), (9, .int (-9)), (7, .long (k_told (bxp, azp, lnp, scp))), (6, .int (nI svp.length)), (5, .int w), (4, .int v), (3, .int (nI i)), (2, .ref aR), (1, .ref x), (0, .ref b)]) (by rw [eo]; rfl) ?_
              refine q_iload C dL_law_135 137 1 rfl rfl ?_
              refine q_bipush (v := -9) C dL_law_137 139 rfl (by decide) ?_
              refine q_icmp_ne C dL_law_139 142 164 rfl (by decide) Iff.rfl (fun h139 => False.elim (h139 rfl)) (fun h139 => ?_)
              refine q_lload C dL_law_142 144 0 rfl rfl ?_
              refine q_lload C dL_law_144 146 2 rfl rfl ?_
              refine q_lcmp C dL_law_146 147 rfl ?_
              refine q_if_ne C dL_law_147 150 177 rfl (by decide) Iff.rfl (fun h147 => False.elim (h147 (lg_self _))) (fun h147 => ?_)
              refine q_aload_n C dL_law_150 151 8 rfl rfl ?_
              refine q_bipush (v := nI 17) C dL_law_151 153 rfl (by decide) ?_
              refine q_callV (k := 0) (ci := 5) (n := 1) (rest := []) (Rr := [vO, vA, vB, vL, wT, wK, wAr]) C rfl (k_isX_recv rX) rfl (c_X6_count_h l hZ hI hN hG x aO aY aN ((nI 1)) aT aK wX rX aB aL aS scp wO_124 rOn wA_124 rAn bxp azp wB_124 rBn lnp wL_124 rLn svp wH_124 rHn 17 (by omega) (k_Cv_cs (S := (bxp, azp, lnp, scp)) hJp.1.2) (k_Cv_ws (S := (bxp, azp, lnp, scp)) hJp.1.1.1.2.1 hJp.1.2)) gL_law_X6_count rfl rfl rfl (by decide +kernel) B.1 ⟨Nat.le_of_ble_eq_true rfl, Nat.le_of_ble_eq_true rfl⟩ rfl rfl (Nat.le_of_ble_eq_true rfl) dL_law_153 ⟨(Nat.le_of_ble_eq_true rfl), (Nat.le_of_ble_eq_true rfl)⟩ [0, 1, 2, 3, 4, 5] [6, 7, 8, 9, 10, 11, 12] (by decide : ([0, 1, 2, 3, 4, 5] ++ ([6, 7, 8, 9, 10, 11, 12] : List Nat)).Perm (List.range 13)) rfl rfl 156 rfl (fun v0 R0 t0 ht0 hp0 => ?_)
              obtain ⟨rfl, rfl⟩ := hp0
              refine q_eqs (st' := [.int (k_tc bxp azp lnp scp svp.length 17)]) rfl ?_
              refine q_eqR (Rs' := [wX, wO_124, wA_124, wB_124, wL_124, wH_124, vO, vA, vB, vL, wT, wK, wAr]) rfl ?_
              refine q_eqs (st' := [.int (nI svp.length)]) (by rw [show k_tc bxp azp lnp scp svp.length 17 = nI svp.length from rfl]) ?_
              refine q_iload C dL_law_156 158 3 rfl rfl ?_
              refine q_icmp_eq C dL_law_158 161 179 rfl (by decide) (nI_eq (by omega) (by omega)) (fun h158 => ?_) (fun h158 => False.elim (by first | omega | simp_all))
              refine q_iload C dL_law_179 181 1 rfl rfl ?_
              refine q_bipush (v := -9) C dL_law_181 183 rfl (by decide) ?_
              refine q_icmp_eq C dL_law_183 186 240 rfl (by decide) Iff.rfl (fun h183 => ?_) (fun h183 => False.elim (h183 rfl))
              refine q_sub (L' := [(5, .int w), (3, .int (nI i)), (2, .ref aR), (1, .ref x), (0, .ref b)]) [4, 6, 7, 8, 9] rfl ?_
              exact j240 bxp azp lnp scp svp wO_124 wA_124 wB_124 wL_124 wH_124 rOn rAn rBn rLn rHn hJp hsp (by omega)
            · have ha9 : k_aR (k_act (bxp, azp, lnp, scp) (sb, sa, sl, ss) v w) ≠ -9 := fun z => eo ((k_aR_9 hJp hJn).mp z)
              have hVl : (k_aV svp (bxp, azp, lnp, scp) (k_act (bxp, azp, lnp, scp) (sb, sa, sl, ss) v w)).length = svp.length + 1 := k_aV_len eo (by omega)
              refine q_iload C dL_law_135 137 1 rfl rfl ?_
              refine q_bipush (v := -9) C dL_law_137 139 rfl (by decide) ?_
              refine q_icmp_ne C dL_law_139 142 164 rfl (by decide) Iff.rfl (fun h139 => ?_) (fun h139 => False.elim (ha9 h139))
              refine q_aload_n C dL_law_164 165 8 rfl rfl ?_
              refine q_bipush (v := nI 17) C dL_law_165 167 rfl (by decide) ?_
              refine q_callV (k := 0) (ci := 5) (n := 1) (rest := []) (Rr := [vO, vA, vB, vL, wT, wK, wAr]) C rfl (k_isX_recv rX) rfl (c_X6_count_h l hZ hI hN hG x aO aY aN ((nI 1)) aT aK wX rX aB aL aS ((k_aS (bxp, azp, lnp, scp) (k_act (bxp, azp, lnp, scp) (sb, sa, sl, ss) v w)).2.2.2) wO_124 hwO_124 wA_124 hwA_124 ((k_aS (bxp, azp, lnp, scp) (k_act (bxp, azp, lnp, scp) (sb, sa, sl, ss) v w)).1) ((k_aS (bxp, azp, lnp, scp) (k_act (bxp, azp, lnp, scp) (sb, sa, sl, ss) v w)).2.1) wB_124 hwB_124 ((k_aS (bxp, azp, lnp, scp) (k_act (bxp, azp, lnp, scp) (sb, sa, sl, ss) v w)).2.2.1) wL_124 hwL_124 ((k_aV svp (bxp, azp, lnp, scp) (k_act (bxp, azp, lnp, scp) (sb, sa, sl, ss) v w))) wH_124 hwH_124 17 (by omega) (k_Cv_cs (S := (k_aS (bxp, azp, lnp, scp) (k_act (bxp, azp, lnp, scp) (sb, sa, sl, ss) v w))) hJ2.1.2) (k_Cv_ws (S := (k_aS (bxp, azp, lnp, scp) (k_act (bxp, azp, lnp, scp) (sb, sa, sl, ss) v w))) hJ2.1.1.1.2.1 hJ2.1.2)) gL_law_X6_count rfl rfl rfl (by decide +kernel) B.1 ⟨Nat.le_of_ble_eq_true rfl, Nat.le_of_ble_eq_true rfl⟩ rfl rfl (Nat.le_of_ble_eq_true rfl) dL_law_167 ⟨(Nat.le_of_ble_eq_true rfl), (Nat.le_of_ble_eq_true rfl)⟩ [0, 1, 2, 3, 4, 5] [6, 7, 8, 9, 10, 11, 12] (by decide : ([0, 1, 2, 3, 4, 5] ++ ([6, 7, 8, 9, 10, 11, 12] : List Nat)).Perm (List.range 13)) rfl rfl 170 rfl (fun v0 R0 t0 ht0 hp0 => ?_)
              obtain ⟨rfl, rfl⟩ := hp0
              refine q_eqs (st' := [.int (k_tc ((k_aS (bxp, azp, lnp, scp) (k_act (bxp, azp, lnp, scp) (sb, sa, sl, ss) v w)).1) ((k_aS (bxp, azp, lnp, scp) (k_act (bxp, azp, lnp, scp) (sb, sa, sl, ss) v w)).2.1) ((k_aS (bxp, azp, lnp, scp) (k_act (bxp, azp, lnp, scp) (sb, sa, sl, ss) v w)).2.2.1) ((k_aS (bxp, azp, lnp, scp) (k_act (bxp, azp, lnp, scp) (sb, sa, sl, ss) v w)).2.2.2) ((k_aV svp (bxp, azp, lnp, scp) (k_act (bxp, azp, lnp, scp) (sb, sa, sl, ss) v w))).length 17)]) rfl ?_
              refine q_eqR (Rs' := [wX, wO_124, wA_124, wB_124, wL_124, wH_124, vO, vA, vB, vL, wT, wK, wAr]) rfl ?_
              refine q_eqs (st' := [.int (nI ((k_aV svp (bxp, azp, lnp, scp) (k_act (bxp, azp, lnp, scp) (sb, sa, sl, ss) v w)).length))]) (by rw [show k_tc ((k_aS (bxp, azp, lnp, scp) (k_act (bxp, azp, lnp, scp) (sb, sa, sl, ss) v w)).1) ((k_aS (bxp, azp, lnp, scp) (k_act (bxp, azp, lnp, scp) (sb, sa, sl, ss) v w)).2.1) ((k_aS (bxp, azp, lnp, scp) (k_act (bxp, azp, lnp, scp) (sb, sa, sl, ss) v w)).2.2.1) ((k_aS (bxp, azp, lnp, scp) (k_act (bxp, azp, lnp, scp) (sb, sa, sl, ss) v w)).2.2.2) ((k_aV svp (bxp, azp, lnp, scp) (k_act (bxp, azp, lnp, scp) (sb, sa, sl, ss) v w))).length 17 = nI ((k_aV svp (bxp, azp, lnp, scp) (k_act (bxp, azp, lnp, scp) (sb, sa, sl, ss) v w)).length) from rfl]) ?_
              refine q_iload C dL_law_170 172 3 rfl rfl ?_
              refine q_iconst (v := nI 1) C dL_law_172 173 rfl (by decide) ?_
              refine q_iadd (v := nI (svp.length + 1)) C dL_law_173 174 rfl (q_nadd (by omega)) ?_
              refine q_icmp_eq C dL_law_174 177 179 rfl (by decide) (nI_eq (by omega) (by omega)) (fun h174 => ?_) (fun h174 => False.elim (by first | omega | simp_all))
              refine q_iload C dL_law_179 181 1 rfl rfl ?_
              refine q_bipush (v := -9) C dL_law_181 183 rfl (by decide) ?_
              refine q_icmp_eq C dL_law_183 186 240 rfl (by decide) Iff.rfl (fun h183 => False.elim (ha9 h183)) (fun h183 => ?_)
              refine q_iload C dL_law_186 188 5 rfl rfl ?_
              refine q_bipush (v := nI 10) C dL_law_188 190 rfl (by decide) ?_
              refine q_ishr (v := v >>> 10) C dL_law_190 191 rfl (by rw [show nI 10 &&& 31 = (10 : Int32) by decide]) ?_
              refine q_iconst (v := nI 1) C dL_law_191 192 rfl (by decide) ?_
              refine q_iand (v := nI (((v >>> 10).toBitVec.toNat % 2))) C dL_law_192 193 rfl (pk_and (v >>> 10) 1 (by decide)) ?_
              refine q_if_ne C dL_law_193 196 240 rfl (by decide) (q_eq0 (by omega)) (fun h193 => ?_) (fun h193 => ?_)
              · refine q_sub (L' := [(5, .int w), (3, .int (nI i)), (2, .ref aR), (1, .ref x), (0, .ref b)]) [4, 6, 7, 8, 9] rfl ?_
                exact j240 ((k_aS (bxp, azp, lnp, scp) (k_act (bxp, azp, lnp, scp) (sb, sa, sl, ss) v w)).1) ((k_aS (bxp, azp, lnp, scp) (k_act (bxp, azp, lnp, scp) (sb, sa, sl, ss) v w)).2.1) ((k_aS (bxp, azp, lnp, scp) (k_act (bxp, azp, lnp, scp) (sb, sa, sl, ss) v w)).2.2.1) ((k_aS (bxp, azp, lnp, scp) (k_act (bxp, azp, lnp, scp) (sb, sa, sl, ss) v w)).2.2.2) ((k_aV svp (bxp, azp, lnp, scp) (k_act (bxp, azp, lnp, scp) (sb, sa, sl, ss) v w))) wO_124 wA_124 wB_124 wL_124 wH_124 hwO_124 hwA_124 hwB_124 hwL_124 hwH_124 hJ2 (k_aV_all hsp hJp) (by omega)
              · refine q_aload_n C dL_law_196 197 8 rfl rfl ?_
                refine q_callV (k := 0) (ci := 5) (n := 0) (rest := []) (Rr := [vO, vA, vB, vL, wT, wK, wAr]) C rfl (k_isX_recv rX) rfl (c_X6_undo_b l hZ hI hN hG x aO aY aN ((nI 1)) aT aK wX rX aB aL aS ((k_aS (bxp, azp, lnp, scp) (k_act (bxp, azp, lnp, scp) (sb, sa, sl, ss) v w)).2.2.2) wO_124 hwO_124 wA_124 hwA_124 ((k_aS (bxp, azp, lnp, scp) (k_act (bxp, azp, lnp, scp) (sb, sa, sl, ss) v w)).1) ((k_aS (bxp, azp, lnp, scp) (k_act (bxp, azp, lnp, scp) (sb, sa, sl, ss) v w)).2.1) wB_124 hwB_124 ((k_aS (bxp, azp, lnp, scp) (k_act (bxp, azp, lnp, scp) (sb, sa, sl, ss) v w)).2.2.1) wL_124 hwL_124 ((k_aV svp (bxp, azp, lnp, scp) (k_act (bxp, azp, lnp, scp) (sb, sa, sl, ss) v w))) wH_124 hwH_124 (by omega)) gL_law_X6_undo rfl rfl rfl (by decide +kernel) B.1 ⟨Nat.le_of_ble_eq_true rfl, Nat.le_of_ble_eq_true rfl⟩ rfl rfl (Nat.le_of_ble_eq_true rfl) dL_law_197 ⟨(Nat.le_of_ble_eq_true rfl), (Nat.le_of_ble_eq_true rfl)⟩ [0, 1, 2, 3, 4, 5] [6, 7, 8, 9, 10, 11, 12] (by decide : ([0, 1, 2, 3, 4, 5] ++ ([6, 7, 8, 9, 10, 11, 12] : List Nat)).Perm (List.range 13)) rfl rfl 200 rfl (fun v0 R0 t0 ht0 hp0 => ?_)
                obtain ⟨rfl, wO_197, hwO_197, wA_197, hwA_197, wB_197, hwB_197, wL_197, hwL_197, wH_197, hwH_197, rfl⟩ := hp0
                refine q_eqs (st' := [.int (nI (((k_aV svp (bxp, azp, lnp, scp) (k_act (bxp, azp, lnp, scp) (sb, sa, sl, ss) v w))).length - 1))]) rfl ?_
                refine q_eqR (Rs' := [wX, wO_197, wA_197, wB_197, wL_197, wH_197, vO, vA, vB, vL, wT, wK, wAr]) rfl ?_
                refine q_eqs (st' := [.int (nI ((k_aV svp (bxp, azp, lnp, scp) (k_act (bxp, azp, lnp, scp) (sb, sa, sl, ss) v w)).length - 1))]) (by rw [show nI (((k_aV svp (bxp, azp, lnp, scp) (k_act (bxp, azp, lnp, scp) (sb, sa, sl, ss) v w))).length - 1) = nI ((k_aV svp (bxp, azp, lnp, scp) (k_act (bxp, azp, lnp, scp) (sb, sa, sl, ss) v w)).length - 1) from rfl]) ?_
                refine q_iload C dL_law_200 202 3 rfl rfl ?_
                refine q_icmp_ne C dL_law_202 205 238 rfl (by decide) (nI_eq (by omega) (by omega)) (fun h202 => False.elim (by first | omega | simp_all)) (fun h202 => ?_)
                have e98 := k_nw_aV (sv := svp) (S := (bxp, azp, lnp, scp)) eo
                have e97 := k_aV_dl (sv := svp) (S := (bxp, azp, lnp, scp)) eo (by omega)
                have rOz : k_isO cI aO aB aL aS scp wO_197 := by have h9 := hwO_197; rw [e98] at h9; exact h9
                have rAz : k_isA cI aS scp wA_197 := by have h9 := hwA_197; rw [e98] at h9; exact h9
                have rBz : k_isB cI aB bxp azp wB_197 := by have h9 := hwB_197; rw [e98] at h9; exact h9
                have rLz : k_isL cI aL lnp wL_197 := by have h9 := hwL_197; rw [e98] at h9; exact h9
                have rHz : k_isH cG cI aY svp wH_197 := by have h9 := hwH_197; rw [e97] at h9; exact h9
                refine q_aload_n C dL_law_205 206 8 rfl rfl ?_
                refine q_callS (n := 1) (rest := []) (Rr := [vO, vA, vB, vL, wT, wK, wAr]) C (c_L_told l hZ hI hN hG x aO aY aN ((nI 1)) aT aK wX rX aB aL aS scp wO_197 rOz wA_197 rAz bxp azp wB_197 rBz lnp wL_197 rLz svp wH_197 rHz (k_Cv_cs (S := (bxp, azp, lnp, scp)) hJp.1.2) (k_Cv_ws (S := (bxp, azp, lnp, scp)) hJp.1.1.1.2.1 hJp.1.2)) gL_law_L_told rfl rfl rfl (by decide +kernel) B.1 ⟨Nat.le_of_ble_eq_true rfl, Nat.le_of_ble_eq_true rfl⟩ rfl rfl (Nat.le_of_ble_eq_true rfl) dL_law_206 ⟨(Nat.le_of_ble_eq_true rfl), (Nat.le_of_ble_eq_true rfl)⟩ [0, 1, 2, 3, 4, 5] [6, 7, 8, 9, 10, 11, 12] (by decide : ([0, 1, 2, 3, 4, 5] ++ ([6, 7, 8, 9, 10, 11, 12] : List Nat)).Perm (List.range 13)) rfl rfl 209 rfl (fun v0 R0 t0 ht0 hp0 => ?_)
                obtain ⟨rfl, rfl⟩ := hp0
                refine q_eqs (st' := [.long (k_told (bxp, azp, lnp, scp))]) rfl ?_
                refine q_eqR (Rs' := [wX, wO_197, wA_197, wB_197, wL_197, wH_197, vO, vA, vB, vL, wT, wK, wAr]) rfl ?_
                refine q_lload C dL_law_209 211 2 rfl rfl ?_
                refine q_lcmp C dL_law_211 212 rfl ?_
                refine q_if_ne C dL_law_212 215 238 rfl (by decide) Iff.rfl (fun h212 => False.elim (h212 (lg_self _))) (fun h212 => ?_)
                refine q_aload_n C dL_law_215 216 8 rfl rfl ?_
                refine q_iload C dL_law_216 218 5 rfl rfl ?_
                refine q_iload C dL_law_218 220 4 rfl rfl ?_
                refine q_callS (n := 3) (rest := []) (Rr := [wT, wK, wAr]) C (c_L_act_A l hZ hI hN hG hVs x aO aY aN ((nI 1)) aT aK wX rX aB aL aS scp wO_197 rOz wA_197 rAz bxp azp wB_197 rBz lnp wL_197 rLz svp wH_197 rHz naB naL naS ss vO gO vA gA sb sa vB gB sl vL gL v w hJp.1 hJp.2 rfl) gL_law_L_act rfl rfl rfl (by decide +kernel) B.1 ⟨Nat.le_of_ble_eq_true rfl, Nat.le_of_ble_eq_true rfl⟩ rfl rfl (Nat.le_of_ble_eq_true rfl) dL_law_220 ⟨(Nat.le_of_ble_eq_true rfl), (Nat.le_of_ble_eq_true rfl)⟩ [0, 1, 2, 3, 4, 5, 6, 7, 8, 9] [10, 11, 12] (by decide : ([0, 1, 2, 3, 4, 5, 6, 7, 8, 9] ++ ([10, 11, 12] : List Nat)).Perm (List.range 13)) rfl rfl 223 rfl (fun v0 R0 t0 ht0 hp0 => ?_)
                obtain ⟨rfl, wO_220, hwO_220, wA_220, hwA_220, wB_220, hwB_220, wL_220, hwL_220, wH_220, hwH_220, rfl⟩ := hp0
                refine q_eqs (st' := [.int (k_aR (k_act (bxp, azp, lnp, scp) (sb, sa, sl, ss) v w))]) rfl ?_
                refine q_eqR (Rs' := [wX, wO_220, wA_220, wB_220, wL_220, wH_220, vO, vA, vB, vL, wT, wK, wAr]) rfl ?_
                refine q_iload C dL_law_223 225 1 rfl rfl ?_
                refine q_icmp_ne C dL_law_225 228 238 rfl (by decide) Iff.rfl (fun h225 => False.elim (h225 rfl)) (fun h225 => ?_)
                refine q_aload_n C dL_law_228 229 8 rfl rfl ?_
                refine q_callS (n := 1) (rest := []) (Rr := [vO, vA, vB, vL, wT, wK, wAr]) C (c_L_told l hZ hI hN hG x aO aY aN ((nI 1)) aT aK wX rX aB aL aS ((k_aS (bxp, azp, lnp, scp) (k_act (bxp, azp, lnp, scp) (sb, sa, sl, ss) v w)).2.2.2) wO_220 hwO_220 wA_220 hwA_220 ((k_aS (bxp, azp, lnp, scp) (k_act (bxp, azp, lnp, scp) (sb, sa, sl, ss) v w)).1) ((k_aS (bxp, azp, lnp, scp) (k_act (bxp, azp, lnp, scp) (sb, sa, sl, ss) v w)).2.1) wB_220 hwB_220 ((k_aS (bxp, azp, lnp, scp) (k_act (bxp, azp, lnp, scp) (sb, sa, sl, ss) v w)).2.2.1) wL_220 hwL_220 ((k_aV svp (bxp, azp, lnp, scp) (k_act (bxp, azp, lnp, scp) (sb, sa, sl, ss) v w))) wH_220 hwH_220 (k_Cv_cs (S := (k_aS (bxp, azp, lnp, scp) (k_act (bxp, azp, lnp, scp) (sb, sa, sl, ss) v w))) hJ2.1.2) (k_Cv_ws (S := (k_aS (bxp, azp, lnp, scp) (k_act (bxp, azp, lnp, scp) (sb, sa, sl, ss) v w))) hJ2.1.1.1.2.1 hJ2.1.2)) gL_law_L_told rfl rfl rfl (by decide +kernel) B.1 ⟨Nat.le_of_ble_eq_true rfl, Nat.le_of_ble_eq_true rfl⟩ rfl rfl (Nat.le_of_ble_eq_true rfl) dL_law_229 ⟨(Nat.le_of_ble_eq_true rfl), (Nat.le_of_ble_eq_true rfl)⟩ [0, 1, 2, 3, 4, 5] [6, 7, 8, 9, 10, 11, 12] (by decide : ([0, 1, 2, 3, 4, 5] ++ ([6, 7, 8, 9, 10, 11, 12] : List Nat)).Perm (List.range 13)) rfl rfl 232 rfl (fun v0 R0 t0 ht0 hp0 => ?_)
                obtain ⟨rfl, rfl⟩ := hp0
                refine q_eqs (st' := [.long (k_told (((k_aS (bxp, azp, lnp, scp) (k_act (bxp, azp, lnp, scp) (sb, sa, sl, ss) v w)).1), ((k_aS (bxp, azp, lnp, scp) (k_act (bxp, azp, lnp, scp) (sb, sa, sl, ss) v w)).2.1), ((k_aS (bxp, azp, lnp, scp) (k_act (bxp, azp, lnp, scp) (sb, sa, sl, ss) v w)).2.2.1), ((k_aS (bxp, azp, lnp, scp) (k_act (bxp, azp, lnp, scp) (sb, sa, sl, ss) v w)).2.2.2)))]) rfl ?_
                refine q_eqR (Rs' := [wX, wO_220, wA_220, wB_220, wL_220, wH_220, vO, vA, vB, vL, wT, wK, wAr]) rfl ?_
                refine q_eqs (st' := [.long (k_told (k_aS (bxp, azp, lnp, scp) (k_act (bxp, azp, lnp, scp) (sb, sa, sl, ss) v w)))]) rfl ?_
                refine q_lload C dL_law_232 234 0 rfl rfl ?_
                refine q_lcmp C dL_law_234 235 rfl ?_
                refine q_if_eq C dL_law_235 238 240 rfl (by decide) Iff.rfl (fun h235 => ?_) (fun h235 => False.elim (h235 (lg_self _)))
                refine q_sub (L' := [(5, .int w), (3, .int (nI i)), (2, .ref aR), (1, .ref x), (0, .ref b)]) [4, 6, 7, 8, 9] rfl ?_
                exact j240 ((k_aS (bxp, azp, lnp, scp) (k_act (bxp, azp, lnp, scp) (sb, sa, sl, ss) v w)).1) ((k_aS (bxp, azp, lnp, scp) (k_act (bxp, azp, lnp, scp) (sb, sa, sl, ss) v w)).2.1) ((k_aS (bxp, azp, lnp, scp) (k_act (bxp, azp, lnp, scp) (sb, sa, sl, ss) v w)).2.2.1) ((k_aS (bxp, azp, lnp, scp) (k_act (bxp, azp, lnp, scp) (sb, sa, sl, ss) v w)).2.2.2) ((k_aV svp (bxp, azp, lnp, scp) (k_act (bxp, azp, lnp, scp) (sb, sa, sl, ss) v w))) wO_220 wA_220 wB_220 wL_220 wH_220 hwO_220 hwA_220 hwB_220 hwL_220 hwH_220 hJ2 (k_aV_all hsp hJp) (by omega)
          refine q_aload_n C dL_law_85 86 4 rfl rfl ?_
          refine q_bipush (v := nI 17) C dL_law_86 88 rfl (by decide) ?_
          refine q_callV (k := 0) (ci := 5) (n := 1) (rest := []) (Rr := [vO, vA, vB, vL, wT, wK, wAr]) C rfl (k_isX_recv rX) rfl (c_X6_count_h l hZ hI hN hG x aO aY aN ((nI 1)) aT aK wX rX aB aL aS sc wO rO wA rA bx az wB rB ln wL rL sv wH rH 17 (by omega) (k_Cv_cs (S := (bx, az, ln, sc)) hJ.1.2) (k_Cv_ws (S := (bx, az, ln, sc)) hJ.1.1.1.2.1 hJ.1.2)) gL_law_X6_count rfl rfl rfl (by decide +kernel) B.1 ⟨Nat.le_of_ble_eq_true rfl, Nat.le_of_ble_eq_true rfl⟩ rfl rfl (Nat.le_of_ble_eq_true rfl) dL_law_88 ⟨(Nat.le_of_ble_eq_true rfl), (Nat.le_of_ble_eq_true rfl)⟩ [0, 1, 2, 3, 4, 5] [6, 7, 8, 9, 10, 11, 12] (by decide : ([0, 1, 2, 3, 4, 5] ++ ([6, 7, 8, 9, 10, 11, 12] : List Nat)).Perm (List.range 13)) rfl rfl 91 rfl (fun v0 R0 t0 ht0 hp0 => ?_)
          obtain ⟨rfl, rfl⟩ := hp0
          refine q_eqs (st' := [.int (k_tc bx az ln sc sv.length 17)]) rfl ?_
          refine q_eqR (Rs' := [wX, wO, wA, wB, wL, wH, vO, vA, vB, vL, wT, wK, wAr]) rfl ?_
          refine q_eqs (st' := [.int (nI sv.length)]) (by rw [show k_tc bx az ln sc sv.length 17 = nI sv.length from rfl]) ?_
          refine q_iconst (v := nI 5) C dL_law_91 92 rfl (by decide) ?_
          refine q_icmp_lt C dL_law_92 95 105 rfl (by decide) (nI_ltI (by omega) (by omega)) (fun h92 => ?_) (fun h92 => ?_)
          · refine q_sub (L' := [(5, .int (k_cell xs LL (2 * i + 1))), (4, .int v), (3, .int (nI i)), (2, .ref aR), (1, .ref x), (0, .ref b)]) [0, 1, 2, 3, 4, 5] rfl ?_
            exact j105 bx az ln sc sv wO wA wB wL wH (k_cell xs LL (2 * i + 1)) rO rA rB rL rH hJ hs (by omega)
          · refine q_aload_n C dL_law_95 96 4 rfl rfl ?_
            refine q_callV (k := 0) (ci := 5) (n := 0) (rest := []) (Rr := [vO, vA, vB, vL, wT, wK, wAr]) C rfl (k_isX_recv rX) rfl (c_X6_undo_b l hZ hI hN hG x aO aY aN ((nI 1)) aT aK wX rX aB aL aS sc wO rO wA rA bx az wB rB ln wL rL sv wH rH (by omega)) gL_law_X6_undo rfl rfl rfl (by decide +kernel) B.1 ⟨Nat.le_of_ble_eq_true rfl, Nat.le_of_ble_eq_true rfl⟩ rfl rfl (Nat.le_of_ble_eq_true rfl) dL_law_96 ⟨(Nat.le_of_ble_eq_true rfl), (Nat.le_of_ble_eq_true rfl)⟩ [0, 1, 2, 3, 4, 5] [6, 7, 8, 9, 10, 11, 12] (by decide : ([0, 1, 2, 3, 4, 5] ++ ([6, 7, 8, 9, 10, 11, 12] : List Nat)).Perm (List.range 13)) rfl rfl 99 rfl (fun v0 R0 t0 ht0 hp0 => ?_)
            obtain ⟨rfl, wO_96, hwO_96, wA_96, hwA_96, wB_96, hwB_96, wL_96, hwL_96, wH_96, hwH_96, rfl⟩ := hp0
            refine q_eqs (st' := [.int (nI (sv.length - 1))]) rfl ?_
            refine q_eqR (Rs' := [wX, wO_96, wA_96, wB_96, wL_96, wH_96, vO, vA, vB, vL, wT, wK, wAr]) rfl ?_
            refine q_pop C dL_law_99 100 rfl rfl ?_
            refine q_aload_n C dL_law_100 101 4 rfl rfl ?_
            refine q_callV (k := 0) (ci := 5) (n := 0) (rest := []) (Rr := [vO, vA, vB, vL, wT, wK, wAr]) C rfl (k_isX_recv rX) rfl (c_X6_undo_b l hZ hI hN hG x aO aY aN ((nI 1)) aT aK wX rX aB aL aS ((k_nw sv).2.2.2) wO_96 hwO_96 wA_96 hwA_96 ((k_nw sv).1) ((k_nw sv).2.1) wB_96 hwB_96 ((k_nw sv).2.2.1) wL_96 hwL_96 sv.dropLast wH_96 hwH_96 (by rw [List.length_dropLast]; omega)) gL_law_X6_undo rfl rfl rfl (by decide +kernel) B.1 ⟨Nat.le_of_ble_eq_true rfl, Nat.le_of_ble_eq_true rfl⟩ rfl rfl (Nat.le_of_ble_eq_true rfl) dL_law_101 ⟨(Nat.le_of_ble_eq_true rfl), (Nat.le_of_ble_eq_true rfl)⟩ [0, 1, 2, 3, 4, 5] [6, 7, 8, 9, 10, 11, 12] (by decide : ([0, 1, 2, 3, 4, 5] ++ ([6, 7, 8, 9, 10, 11, 12] : List Nat)).Perm (List.range 13)) rfl rfl 104 rfl (fun v0 R0 t0 ht0 hp0 => ?_)
            obtain ⟨rfl, wO_101, hwO_101, wA_101, hwA_101, wB_101, hwB_101, wL_101, hwL_101, wH_101, hwH_101, rfl⟩ := hp0
            refine q_eqs (st' := [.int (nI (sv.dropLast.length - 1))]) rfl ?_
            refine q_eqR (Rs' := [wX, wO_101, wA_101, wB_101, wL_101, wH_101, vO, vA, vB, vL, wT, wK, wAr]) rfl ?_
            refine q_pop C dL_law_104 105 rfl rfl ?_
            refine q_sub (L' := [(5, .int (k_cell xs LL (2 * i + 1))), (4, .int v), (3, .int (nI i)), (2, .ref aR), (1, .ref x), (0, .ref b)]) [0, 1, 2, 3, 4, 5] rfl ?_
            exact j105 ((k_nw sv.dropLast).1) ((k_nw sv.dropLast).2.1) ((k_nw sv.dropLast).2.2.1) ((k_nw sv.dropLast).2.2.2) sv.dropLast.dropLast wO_101 wA_101 wB_101 wL_101 wH_101 (k_cell xs LL (2 * i + 1)) hwO_101 hwA_101 hwB_101 hwL_101 hwH_101 (hs _ (k_nw_in (by rw [List.length_dropLast]; omega) (fun T hT => List.dropLast_subset _ hT))) (fun T hT => hs T (List.dropLast_subset _ (List.dropLast_subset _ hT))) (by rw [List.length_dropLast, List.length_dropLast]; omega)
        refine q_iload_n C dL_law_55 56 0 rfl rfl ?_
        refine q_iconst (v := nI 3) C dL_law_56 57 rfl (by decide) ?_
        refine q_icmp_ge C dL_law_57 60 65 rfl (by decide) (nI_leI (by omega) (by omega)) (fun h57 => ?_) (fun h57 => ?_)
        · refine q_aload_n C dL_law_65 66 3 rfl rfl ?_
          refine q_iconst (v := nI 2) C dL_law_66 67 rfl (by decide) ?_
          refine q_iload_n C dL_law_67 68 0 rfl rfl ?_
          refine q_imul (v := nI (2 * i)) C dL_law_68 69 rfl (q_nmul (by omega)) ?_
          refine q_callS (n := 2) (rest := []) (Rr := [wX, wO, wA, wB, wL, wH, vO, vA, vB, vL, wT, wK, wAr]) C (c_L_cell l hZ hI b (2 * i) LL xs hSc (by omega) (by omega)) gL_law_L_cell rfl rfl rfl (by decide +kernel) B.1 ⟨Nat.le_of_ble_eq_true rfl, Nat.le_of_ble_eq_true rfl⟩ rfl rfl (Nat.le_of_ble_eq_true rfl) dL_law_69 ⟨(Nat.le_of_ble_eq_true rfl), (Nat.le_of_ble_eq_true rfl)⟩ [] [0, 1, 2, 3, 4, 5, 6, 7, 8, 9, 10, 11, 12] (by decide : ([] ++ ([0, 1, 2, 3, 4, 5, 6, 7, 8, 9, 10, 11, 12] : List Nat)).Perm (List.range 13)) rfl rfl 72 rfl (fun v0 R0 t0 ht0 hp0 => ?_)
          obtain ⟨rfl, rfl⟩ := hp0
          refine q_eqs (st' := [.int (k_cell xs LL (2 * i))]) rfl ?_
          refine q_eqR (Rs' := [wX, wO, wA, wB, wL, wH, vO, vA, vB, vL, wT, wK, wAr]) rfl ?_
          refine q_sub (L' := [(3, .int (nI i)), (2, .ref aR), (1, .ref x), (0, .ref b)]) [0, 1, 2, 3] rfl ?_
          exact j72 (k_cell xs LL (2 * i))
        · refine q_bipush (v := nI 12) C dL_law_60 62 rfl (by decide) ?_
          refine q_goto C dL_law_62 72 (by decide) ?_
          refine q_sub (L' := [(3, .int (nI i)), (2, .ref aR), (1, .ref x), (0, .ref b)]) [0, 1, 2, 3] rfl ?_
          exact j72 (nI 12)
  refine q_sub (L' := [(3, .int (nI 0)), (2, .ref aR), (1, .ref x), (0, .ref b)]) [0, 1, 2, 3] rfl ?_
  exact lp _ 0 bx0 az0 ln0 sc0 sv0 wO0 wA0 wB0 wL0 wH0 wK0 kb0 ka0 wAr0 (Nat.lt_succ_self _) (by omega) rO0 rA0 rB0 rL0 rH0 rK0 rAr0 hJ0 hs0 hl0
