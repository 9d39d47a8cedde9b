theorem c_X6_count_h (l : Launch) {D : va_G} {tys : List (ClassId × FieldType)} {Z : (Nat → Prop) → State → Heap → Prop} (hZ : q_St Z) {cI : ClassId} (hI : tys[0]? = some (cI, .int)) (hN : q_Ns Z) {cG : ClassId} (hG : tys[1]? = some (cG, .object "SortCases$State")) (h0 : Nat) (aO : Nat) (aY : Nat) (aN : Nat) (hsn : Int32) (aT : Nat) (aK : Nat) (wX : va_W) (hX : k_isX cI h0 aO aY aN hsn aT aK wX) (aB : Nat) (aL : Nat) (aS : Nat) (sc : Nat → Int32) (wO : va_W) (hO : k_isO cI aO aB aL aS sc wO) (wA : va_W) (hA : k_isA cI aS sc wA) (bx : k_Bx) (at0 : Nat) (wB : va_W) (hB : k_isB cI aB bx at0 wB) (ln : List (Nat × Nat)) (wL : va_W) (hL : k_isL cI aL ln wL) (sv : List k_S) (wH : va_W) (hH : k_isH cG cI aY sv wH) (i : Nat) (hi : i < 18) (hcs : ∀ x, x < 12 → k_cn bx x x + k_cl ln x ≤ 6) (hws : k_ws bx ln = k_wr bx) : q_Ct l D tys Z yX6_count wsX6_count ({ frames := 6, cells := 0, slots := 0, locals := 192 } : Room) 0 0 [.ref h0, .int (nI i)] [wX, wO, wA, wB, wL, wH] (fun v0 R0 _ => v0 = some (.int (k_tc bx at0 ln sc sv.length i)) ∧ R0 = [wX, wO, wA, wB, wL, wH]) := by
  obtain ⟨aG, nx, fq, gq, Tq, Wq, hatq, h6q, rfl⟩ := hH
  have h1 := q_frame hZ [((aG, .inl (cG, 6, .inr (.inr (.inr (.inr fq))))) :: k_flat Wq 6)] (c_X6_count_b (D := D) l hZ hI hN h0 aO aY aN hsn aT aK wX hX aB aL aS sc wO hO wA hA bx at0 wB hB ln wL hL aG nx sv.length [(aY, .inr (1, [.ref aG, .int (nI nx), .int (nI sv.length)]))] rfl i hi hcs hws)
  refine q_post (fun v R t hp => ?_) (q_recut (by simp [k_Hc]) h1)
  obtain ⟨R1, ⟨rfl, rfl⟩, rfl⟩ := hp
  exact ⟨_, by simp [k_Hc], rfl, rfl⟩
set_option maxHeartbeats 400000 in
set_option maxRecDepth 100000 in
theorem c_L_low (l : Launch) {D : va_G} {tys : List (ClassId × FieldType)} {Z : (Nat → Prop) → State → Heap → Prop} (hZ : q_St Z) {cI : ClassId} (hI : tys[0]? = some (cI, .int)) (v : Int32) (n : Nat) (hn0 : 0 < n) (hn : n < 2147483648) : q_Ct l D tys Z yL_low wsL_low ({ frames := 1, cells := 0, slots := 0, locals := 42 } : Room) 0 0 [.int v, .int (nI n)] [] (fun v0 R0 _ => v0 = some (.int (nI (k_low v n))) ∧ R0 = []) := by
  have hcI := hI
  refine q_ct (cc := cL_low) (maxL := 2) (ret := (some .int)) (own := RL) (by decide) rfl hZ (Nat.le_of_ble_eq_true rfl) rfl ?_
  intro p9 e9 R s9 m9 args below meth c9 A Q C B
  have hts := C.2.2.2.2.1
  have csti7 := hts (.constant RL 7 (2147483647)) (by decide +kernel)
  refine q_eqL (L' := [(0, .int v), (1, .int (nI n))]) rfl ?_
  refine q_iload_n C dL_low_0 1 0 rfl rfl ?_
  refine q_ldc (v := 2147483647) C csti7 dL_low_1 3 rfl ?_
  refine q_iand (v := nI ((v.toBitVec.toNat % 2147483648))) C dL_low_3 4 rfl (pk_and v 31 (by decide)) ?_
  refine q_iload_n C dL_low_4 5 1 rfl rfl ?_
  refine q_irem (v := nI (k_low v n)) C dL_low_5 6 rfl (q_nz (by omega) (by omega)) (pk_rem (by omega) (by omega) (by omega)) ?_
  exact q_iret C B dL_low_6 rfl rfl (fun t0 ht0 => ⟨rfl, rfl⟩)

set_option maxHeartbeats 400000 in
set_option maxRecDepth 100000 in
theorem c_L_cell (l : Launch) {D : va_G} {tys : List (ClassId × FieldType)} {Z : (Nat → Prop) → State → Heap → Prop} (hZ : q_St Z) {cI : ClassId} (hI : tys[0]? = some (cI, .int)) (b : Nat) (k : Nat) (LL : Nat) (xs : Nat → Int32) (hSc : q_Sc Z b LL xs) (hk : k < 1000) (hLL : LL < 2147483648) : q_Ct l D tys Z yL_cell wsL_cell ({ frames := 1, cells := 0, slots := 0, locals := 42 } : Room) 0 0 [.ref b, .int (nI k)] [] (fun v0 R0 _ => v0 = some (.int (k_cell xs LL k)) ∧ R0 = []) := by
  have hcI := hI
  refine q_ct (cc := cL_cell) (maxL := 2) (ret := (some .int)) (own := RL) (by decide) rfl hZ (Nat.le_of_ble_eq_true rfl) rfl ?_
  intro p9 e9 R s9 m9 args below meth c9 A Q C B
  have hts := C.2.2.2.2.1
  refine q_eqL (L' := [(0, .ref b), (1, .int (nI k))]) rfl ?_
  refine q_iload_n C dL_cell_0 1 1 rfl rfl ?_
  refine q_aload_n C dL_cell_1 2 0 rfl rfl ?_
  refine q_tlen C (q_sc hSc C) (v := nI LL) rfl dL_cell_2 3 rfl ?_
  refine q_icmp_ge C dL_cell_3 6 12 rfl (by decide) (nI_leI (by omega) (by omega)) (fun h3 => ?_) (fun h3 => ?_)
  · refine q_sipush (v := nI 7919) C dL_cell_12 15 rfl (by decide) ?_
    refine q_iload_n C dL_cell_15 16 1 rfl rfl ?_
    refine q_iconst (v := nI 3) C dL_cell_16 17 rfl (by decide) ?_
    refine q_iadd (v := nI (k + 3)) C dL_cell_17 18 rfl (q_nadd (by omega)) ?_
    refine q_imul (v := nI (7919 * (k + 3))) C dL_cell_18 19 rfl (pk_mul _ _) ?_
    refine q_iload_n C dL_cell_19 20 1 rfl rfl ?_
    refine q_bipush (v := nI 11) C dL_cell_20 22 rfl (by decide) ?_
    refine q_iadd (v := nI (k + 11)) C dL_cell_22 23 rfl (q_nadd (by omega)) ?_
    refine q_imul (v := nI (7919 * (k + 3) * (k + 11))) C dL_cell_23 24 rfl (pk_mul _ _) ?_
    exact q_iret C B dL_cell_24 rfl rfl (fun t0 ht0 => ⟨by unfold k_cell; rw [if_neg (by omega)], rfl⟩)
  · refine q_aload_n C dL_cell_6 7 0 rfl rfl ?_
    refine q_iload_n C dL_cell_7 8 1 rfl rfl ?_
    refine q_ti C (q_sc hSc C) k rfl (by omega) (by omega) (v := .int (xs k)) rfl dL_cell_8 9 rfl ?_
    refine q_goto C dL_cell_9 24 (by decide) ?_
    exact q_iret C B dL_cell_24 rfl rfl (fun t0 ht0 => ⟨by unfold k_cell; rw [if_pos (by omega)], rfl⟩)

set_option maxHeartbeats 400000 in
set_option maxRecDepth 100000 in
theorem c_L_told (l : Launch) {D : va_G} {tys : List (ClassId × FieldType)} {Z : (Nat → Prop) → State → Heap → Prop} (hZ : q_St Z) {cI : ClassId} (hI : tys[0]? = some (cI, .int)) (hN : q_Ns Z) {cG : ClassId} (hG : tys[1]? = some (cG, .object "SortCases$State")) (h0 : Nat) (aO : Nat) (aY : Nat) (aN : Nat) (hsn : Int32) (aT : Nat) (aK : Nat) (wX : va_W) (hX : k_isX cI h0 aO aY aN hsn aT aK wX) (aB : Nat) (aL : Nat) (aS : Nat) (sc : Nat → Int32) (wO : va_W) (hO : k_isO cI aO aB aL aS sc wO) (wA : va_W) (hA : k_isA cI aS sc wA) (bx : k_Bx) (at0 : Nat) (wB : va_W) (hB : k_isB cI aB bx at0 wB) (ln : List (Nat × Nat)) (wL : va_W) (hL : k_isL cI aL ln wL) (sv : List k_S) (wH : va_W) (hH : k_isH cG cI aY sv wH) (hcs : ∀ x, x < 12 → k_cn bx x x + k_cl ln x ≤ 6) (hws : k_ws bx ln = k_wr bx) : q_Ct l D tys Z yL_told wsL_told ({ frames := 8, cells := 0, slots := 0, locals := 252 } : Room) 0 0 [.ref h0] [wX, wO, wA, wB, wL, wH] (fun v0 R0 _ => v0 = some (.long (k_told (bx, at0, ln, sc))) ∧ R0 = [wX, wO, wA, wB, wL, wH]) := by
  have hcI := hI
  have hcG := hG
  refine q_ct (cc := cL_told) (maxL := 5) (ret := (some .long)) (own := RL) (by decide) rfl hZ (Nat.le_of_ble_eq_true rfl) rfl ?_
  intro p9 e9 R s9 m9 args below meth c9 A Q C B
  have hts := C.2.2.2.2.1
  have cst8 := hts (.constantLong RL 8 3) (by decide +kernel)
  have cst10 := hts (.constantLong RL 10 31) (by decide +kernel)
  refine q_eqL (L' := [(0, .ref h0)]) rfl ?_
  have hll := hL.1.1
  have hok := hB.2.1
  refine q_ldc2 C cst8 dL_told_0 3 rfl ?_
  refine q_lstore_n C dL_told_3 4 rfl [(1, .long 3), (0, .ref h0)] (by decide) rfl ?_
  refine q_iconst (v := nI 0) C dL_told_4 5 rfl (by decide) ?_
  refine q_istore_n C dL_told_5 6 rfl [(3, .int (nI 0)), (1, .long 3), (0, .ref h0)] (by decide) rfl ?_
  have lp : ∀ (kk : Nat) (i : Nat) (ui : Int64), 17 - i < kk → ∀ (hii : i ≤ 17), ∀ (hui : ui = k_hf (k_tc bx at0 ln sc sv.length) 3 i), q_V p9 l e9 R s9 m9 args below meth c9 D A 5 Q 0 0 6 [(3, .int (nI i)), (1, .long ui), (0, .ref h0)] [] [wX, wO, wA, wB, wL, wH] := by
    intro kk
    induction kk with
    | zero => intro i ui hkk; exact absurd hkk (Nat.not_lt_zero _)
    | succ kk ih_lp =>
      intro i ui hkk hii hui
      refine q_iload_n C dL_told_6 7 0 rfl rfl ?_
      refine q_bipush (v := nI 17) C dL_told_7 9 rfl (by decide) ?_
      refine q_icmp_ge C dL_told_9 12 31 rfl (by decide) (nI_leI (by omega) (by omega)) (fun h9 => ?_) (fun h9 => ?_)
      · refine q_iconst (v := nI 0) C dL_told_31 32 rfl (by decide) ?_
        refine q_istore_n C dL_told_32 33 rfl [(3, .int (nI 0)), (1, .long ui), (0, .ref h0)] (by decide) rfl ?_
        have lp2 : ∀ (kk : Nat) (b : Nat) (ub : Int64), 12 - b < kk → ∀ (hib : b ≤ 12), ∀ (hub : ub = k_h2 bx (k_hf (k_tc bx at0 ln sc sv.length) 3 17) b), q_V p9 l e9 R s9 m9 args below meth c9 D A 5 Q 0 0 33 [(3, .int (nI b)), (1, .long ub), (0, .ref h0)] [] [wX, wO, wA, wB, wL, wH] := by
          intro kk
          induction kk with
          | zero => intro b ub hkk; exact absurd hkk (Nat.not_lt_zero _)
          | succ kk ih_lp2 =>
            intro b ub hkk hib hub
            refine q_iload_n C dL_told_33 34 0 rfl rfl ?_
            refine q_bipush (v := nI 12) C dL_told_34 36 rfl (by decide) ?_
            refine q_icmp_ge C dL_told_36 39 80 rfl (by decide) (nI_leI (by omega) (by omega)) (fun h36 => ?_) (fun h36 => ?_)
            · refine q_iconst (v := nI 0) C dL_told_80 81 rfl (by decide) ?_
              refine q_istore_n C dL_told_81 82 rfl [(3, .int (nI 0)), (1, .long ub), (0, .ref h0)] (by decide) rfl ?_
              have lp4 : ∀ (kk : Nat) (k : Nat) (ut : Int64), ln.length - k < kk → ∀ (hik : k ≤ ln.length), ∀ (hut : ut = k_h3 ln (k_h2 bx (k_hf (k_tc bx at0 ln sc sv.length) 3 17) 12) k), q_V p9 l e9 R s9 m9 args below meth c9 D A 5 Q 0 0 82 [(3, .int (nI k)), (1, .long ut), (0, .ref h0)] [] [wX, wO, wA, wB, wL, wH] := by
                intro kk
                induction kk with
                | zero => intro k ut hkk; exact absurd hkk (Nat.not_lt_zero _)
                | succ kk ih_lp4 =>
                  intro k ut hkk hik hut
                  refine q_iload_n C dL_told_82 83 0 rfl rfl ?_
                  refine q_aload_n C dL_told_83 84 2 rfl rfl ?_
                  refine q_iconst (v := nI 0) C dL_told_84 85 rfl (by decide) ?_
                  refine q_callV (k := 0) (ci := 5) (n := 1) (rest := [.int (nI k)]) (Rr := []) C rfl (k_isX_recv hX) rfl (c_X6_count_h l hZ hI hN hG h0 aO aY aN hsn aT aK wX hX aB aL aS sc wO hO wA hA bx at0 wB hB ln wL hL sv wH hH 0 (by omega) hcs hws) gL_told_X6_count rfl rfl rfl (by decide +kernel) B.1 ⟨Nat.le_of_ble_eq_true rfl, Nat.le_of_ble_eq_true rfl⟩ rfl rfl (Nat.le_of_ble_eq_true rfl) dL_told_85 ⟨(Nat.le_of_ble_eq_true rfl), (Nat.le_of_ble_eq_true rfl)⟩ [0, 1, 2, 3, 4, 5] [] (by decide : ([0, 1, 2, 3, 4, 5] ++ ([] : List Nat)).Perm (List.range 6)) rfl rfl 88 rfl (fun v0 R0 t0 ht0 hp0 => ?_)
                  obtain ⟨rfl, rfl⟩ := hp0
                  refine q_eqs (st' := [.int (k_tc bx at0 ln sc sv.length 0), .int (nI k)]) rfl ?_
                  refine q_eqR (Rs' := [wX, wO, wA, wB, wL, wH]) rfl ?_
                  refine q_eqs (st' := [.int (nI ln.length), .int (nI k)]) (by rw [show k_tc bx at0 ln sc sv.length 0 = nI ln.length from rfl]) ?_
                  refine q_icmp_ge C dL_told_88 91 123 rfl (by decide) (nI_leI (by omega) (by omega)) (fun h88 => ?_) (fun h88 => ?_)
                  · refine q_lload_n C dL_told_123 124 1 rfl rfl ?_
                    exact q_lret C B dL_told_124 rfl rfl (fun t0 ht0 => ⟨by rw [hut, show k = ln.length by omega, k_hf17]; rfl, rfl⟩)
                  · refine q_ldc2 C cst10 dL_told_91 94 rfl ?_
                    refine q_ldc2 C cst10 dL_told_94 97 rfl ?_
                    refine q_lload_n C dL_told_97 98 1 rfl rfl ?_
                    refine q_lmul (v := 31 * ut) C dL_told_98 99 rfl rfl ?_
                    refine q_aload_n C dL_told_99 100 2 rfl rfl ?_
                    refine q_iload_n C dL_told_100 101 0 rfl rfl ?_
                    refine q_iconst (v := nI 0) C dL_told_101 102 rfl (by decide) ?_
                    refine q_callV (k := 0) (ci := 5) (n := 2) (rest := [.long (31 * ut), .long 31]) (Rr := [wH]) C rfl (k_isX_recv hX) rfl (c_X6_line_c l hZ hI hN h0 aO aY aN hsn aT aK wX hX aB aL aS sc wO hO wA hA bx at0 wB hB ln wL hL k 0 (by omega) (k_has_of hL.1.1 (by omega)) (by omega)) gL_told_X6_line rfl rfl rfl (by decide +kernel) B.1 ⟨Nat.le_of_ble_eq_true rfl, Nat.le_of_ble_eq_true rfl⟩ rfl rfl (Nat.le_of_ble_eq_true rfl) dL_told_102 ⟨(Nat.le_of_ble_eq_true rfl), (Nat.le_of_ble_eq_true rfl)⟩ [0, 1, 2, 3, 4] [5] (by decide : ([0, 1, 2, 3, 4] ++ ([5] : List Nat)).Perm (List.range 6)) rfl rfl 105 rfl (fun v0 R0 t0 ht0 hp0 => ?_)
                    obtain ⟨rfl, rfl⟩ := hp0
                    refine q_eqs (st' := [.int (k_tp bx ln sc k 0), .long (31 * ut), .long 31]) rfl ?_
                    refine q_eqR (Rs' := [wX, wO, wA, wB, wL, wH]) rfl ?_
                    refine q_eqs (st' := [.int (nI (k_la ln k).1), .long (31 * ut), .long 31]) (by rw [show k_tp bx ln sc k 0 = nI (k_la ln k).1 from rfl]) ?_
                    refine q_i2l (v := ((nI (k_la ln k).1) : Int32).toInt64) C dL_told_105 106 rfl rfl ?_
                    refine q_ladd (v := (31 * ut) + (((nI (k_la ln k).1) : Int32).toInt64)) C dL_told_106 107 rfl rfl ?_
                    refine q_lmul (v := 31 * ((31 * ut) + (((nI (k_la ln k).1) : Int32).toInt64))) C dL_told_107 108 rfl rfl ?_
                    refine q_aload_n C dL_told_108 109 2 rfl rfl ?_
                    refine q_iload_n C dL_told_109 110 0 rfl rfl ?_
                    refine q_iconst (v := nI 1) C dL_told_110 111 rfl (by decide) ?_
                    refine q_callV (k := 0) (ci := 5) (n := 2) (rest := [.long (31 * ((31 * ut) + (((nI (k_la ln k).1) : Int32).toInt64)))]) (Rr := [wH]) C rfl (k_isX_recv hX) rfl (c_X6_line_c l hZ hI hN h0 aO aY aN hsn aT aK wX hX aB aL aS sc wO hO wA hA bx at0 wB hB ln wL hL k 1 (by omega) (k_has_of hL.1.1 (by omega)) (by omega)) gL_told_X6_line rfl rfl rfl (by decide +kernel) B.1 ⟨Nat.le_of_ble_eq_true rfl, Nat.le_of_ble_eq_true rfl⟩ rfl rfl (Nat.le_of_ble_eq_true rfl) dL_told_111 ⟨(Nat.le_of_ble_eq_true rfl), (Nat.le_of_ble_eq_true rfl)⟩ [0, 1, 2, 3, 4] [5] (by decide : ([0, 1, 2, 3, 4] ++ ([5] : List Nat)).Perm (List.range 6)) rfl rfl 114 rfl (fun v0 R0 t0 ht0 hp0 => ?_)
                    obtain ⟨rfl, rfl⟩ := hp0
                    refine q_eqs (st' := [.int (k_tp bx ln sc k 1), .long (31 * ((31 * ut) + (((nI (k_la ln k).1) : Int32).toInt64)))]) rfl ?_
                    refine q_eqR (Rs' := [wX, wO, wA, wB, wL, wH]) rfl ?_
                    refine q_eqs (st' := [.int (nI (k_la ln k).2), .long (31 * ((31 * ut) + (((nI (k_la ln k).1) : Int32).toInt64)))]) (by rw [show k_tp bx ln sc k 1 = nI (k_la ln k).2 from rfl]) ?_
                    refine q_i2l (v := ((nI (k_la ln k).2) : Int32).toInt64) C dL_told_114 115 rfl rfl ?_
                    refine q_ladd (v := (31 * ((31 * ut) + (((nI (k_la ln k).1) : Int32).toInt64))) + (((nI (k_la ln k).2) : Int32).toInt64)) C dL_told_115 116 rfl rfl ?_
                    refine q_lstore_n C dL_told_116 117 rfl [(1, .long ((31 * ((31 * ut) + (((nI (k_la ln k).1) : Int32).toInt64))) + (((nI (k_la ln k).2) : Int32).toInt64))), (3, .int (nI k)), (0, .ref h0)] (by decide) rfl ?_
                    refine q_iinc (v := nI (k + 1)) C dL_told_117 120 1 rfl rfl (q_ninc1 (by omega)) [(3, .int (nI (k + 1))), (1, .long ((31 * ((31 * ut) + (((nI (k_la ln k).1) : Int32).toInt64))) + (((nI (k_la ln k).2) : Int32).toInt64))), (0, .ref h0)] (by decide) rfl ?_
                    refine q_goto C dL_told_120 82 (by decide) ?_
                    refine q_sub (L' := [(3, .int (nI (k + 1))), (1, .long ((31 * ((31 * ut) + (((nI (k_la ln k).1) : Int32).toInt64))) + (((nI (k_la ln k).2) : Int32).toInt64))), (0, .ref h0)]) [0, 1, 2] rfl ?_
                    exact ih_lp4 (k + 1) ((31 * ((31 * ut) + (((nI (k_la ln k).1) : Int32).toInt64))) + (((nI (k_la ln k).2) : Int32).toInt64)) (by omega) (by omega) (by rw [hut]; rfl)
              refine q_sub (L' := [(3, .int (nI 0)), (1, .long ub), (0, .ref h0)]) [0, 1, 2] rfl ?_
              exact lp4 _ 0 ub (Nat.lt_succ_self _) (by omega) (by rw [hub, show b = 12 by omega]; rfl)
            · have hlb := (hok b (by omega)).1
              refine q_iconst (v := nI 0) C dL_told_39 40 rfl (by decide) ?_
              refine q_istore C dL_told_40 42 rfl [(4, .int (nI 0)), (3, .int (nI b)), (1, .long ub), (0, .ref h0)] (by decide) rfl ?_
              have lp3 : ∀ (kk : Nat) (k : Nat) (uk : Int64), (bx b).length - k < kk → ∀ (hik : k ≤ (bx b).length), ∀ (huk : uk = k_hf (fun d => k_top bx b d) (k_h2 bx (k_hf (k_tc bx at0 ln sc sv.length) 3 17) b) k), q_V p9 l e9 R s9 m9 args below meth c9 D A 5 Q 0 0 42 [(4, .int (nI k)), (3, .int (nI b)), (1, .long uk), (0, .ref h0)] [] [wX, wO, wA, wB, wL, wH] := by
                intro kk
                induction kk with
                | zero => intro k uk hkk; exact absurd hkk (Nat.not_lt_zero _)
                | succ kk ih_lp3 =>
                  intro k uk hkk hik huk
                  refine q_iload C dL_told_42 44 0 rfl rfl ?_
                  refine q_aload_n C dL_told_44 45 3 rfl rfl ?_
                  refine q_iload_n C dL_told_45 46 1 rfl rfl ?_
                  refine q_iconst (v := nI 0) C dL_told_46 47 rfl (by decide) ?_
                  refine q_callV (k := 0) (ci := 5) (n := 2) (rest := [.int (nI k)]) (Rr := [wL, wH]) C rfl (k_isX_recv hX) rfl (c_X6_box_c l hZ hI hN h0 aO aY aN hsn aT aK wX hX aB aL aS sc wO hO wA hA bx at0 wB hB b 0 (by omega) (by omega)) gL_told_X6_box rfl rfl rfl (by decide +kernel) B.1 ⟨Nat.le_of_ble_eq_true rfl, Nat.le_of_ble_eq_true rfl⟩ rfl rfl (Nat.le_of_ble_eq_true rfl) dL_told_47 ⟨(Nat.le_of_ble_eq_true rfl), (Nat.le_of_ble_eq_true rfl)⟩ [0, 1, 2, 3] [4, 5] (by decide : ([0, 1, 2, 3] ++ ([4, 5] : List Nat)).Perm (List.range 6)) rfl rfl 50 rfl (fun v0 R0 t0 ht0 hp0 => ?_)
                  obtain ⟨rfl, rfl⟩ := hp0
                  refine q_eqs (st' := [.int (k_tb bx at0 sc b 0), .int (nI k)]) rfl ?_
                  refine q_eqR (Rs' := [wX, wO, wA, wB, wL, wH]) rfl ?_
                  refine q_eqs (st' := [.int (nI ((bx b).length)), .int (nI k)]) (by rw [show k_tb bx at0 sc b 0 = nI ((bx b).length) from rfl]) ?_
                  refine q_icmp_ge C dL_told_50 53 74 rfl (by decide) (nI_leI (by omega) (by omega)) (fun h50 => ?_) (fun h50 => ?_)
                  · refine q_iinc (v := nI (b + 1)) C dL_told_74 77 1 rfl rfl (q_ninc1 (by omega)) [(3, .int (nI (b + 1))), (4, .int (nI k)), (1, .long uk), (0, .ref h0)] (by decide) rfl ?_
                    refine q_goto C dL_told_77 33 (by decide) ?_
                    refine q_sub (L' := [(3, .int (nI (b + 1))), (1, .long uk), (0, .ref h0)]) [0, 2, 3] rfl ?_
                    exact ih_lp2 (b + 1) uk (by omega) (by omega) (by rw [huk, show k = (bx b).length by omega]; rfl)
                  · refine q_ldc2 C cst10 dL_told_53 56 rfl ?_
                    refine q_lload_n C dL_told_56 57 2 rfl rfl ?_
                    refine q_lmul (v := 31 * uk) C dL_told_57 58 rfl rfl ?_
                    refine q_aload_n C dL_told_58 59 3 rfl rfl ?_
                    refine q_iload_n C dL_told_59 60 1 rfl rfl ?_
                    refine q_iload C dL_told_60 62 0 rfl rfl ?_
                    refine q_callV (k := 0) (ci := 5) (n := 2) (rest := [.long (31 * uk)]) (Rr := [wL, wH]) C rfl (k_isX_recv hX) rfl (c_X6_type_c l hZ hI hN h0 aO aY aN hsn aT aK wX hX aB aL aS sc wO hO wA hA bx at0 wB hB b k (by omega) (by omega)) gL_told_X6_type rfl rfl rfl (by decide +kernel) B.1 ⟨Nat.le_of_ble_eq_true rfl, Nat.le_of_ble_eq_true rfl⟩ rfl rfl (Nat.le_of_ble_eq_true rfl) dL_told_62 ⟨(Nat.le_of_ble_eq_true rfl), (Nat.le_of_ble_eq_true rfl)⟩ [0, 1, 2, 3] [4, 5] (by decide : ([0, 1, 2, 3] ++ ([4, 5] : List Nat)).Perm (List.range 6)) rfl rfl 65 rfl (fun v0 R0 t0 ht0 hp0 => ?_)
                    obtain ⟨rfl, rfl⟩ := hp0
                    refine q_eqs (st' := [.int (k_top bx b k), .long (31 * uk)]) rfl ?_
                    refine q_eqR (Rs' := [wX, wO, wA, wB, wL, wH]) rfl ?_
                    refine q_i2l (v := ((k_top bx b k) : Int32).toInt64) C dL_told_65 66 rfl rfl ?_
                    refine q_ladd (v := (31 * uk) + (((k_top bx b k) : Int32).toInt64)) C dL_told_66 67 rfl rfl ?_
                    refine q_lstore_n C dL_told_67 68 rfl [(1, .long ((31 * uk) + (((k_top bx b k) : Int32).toInt64))), (4, .int (nI k)), (3, .int (nI b)), (0, .ref h0)] (by decide) rfl ?_
                    refine q_iinc (v := nI (k + 1)) C dL_told_68 71 1 rfl rfl (q_ninc1 (by omega)) [(4, .int (nI (k + 1))), (1, .long ((31 * uk) + (((k_top bx b k) : Int32).toInt64))), (3, .int (nI b)), (0, .ref h0)] (by decide) rfl ?_
                    refine q_goto C dL_told_71 42 (by decide) ?_
                    refine q_sub (L' := [(4, .int (nI (k + 1))), (3, .int (nI b)), (1, .long ((31 * uk) + (((k_top bx b k) : Int32).toInt64))), (0, .ref h0)]) [0, 2, 1, 3] rfl ?_
                    exact ih_lp3 (k + 1) ((31 * uk) + (((k_top bx b k) : Int32).toInt64)) (by omega) (by omega) (by rw [huk]; rfl)
              refine q_sub (L' := [(4, .int (nI 0)), (3, .int (nI b)), (1, .long ub), (0, .ref h0)]) [0, 1, 2, 3] rfl ?_
              exact lp3 _ 0 ub (Nat.lt_succ_self _) (by omega) (by rw [hub]; rfl)
        refine q_sub (L' := [(3, .int (nI 0)), (1, .long ui), (0, .ref h0)]) [0, 1, 2] rfl ?_
        exact lp2 _ 0 ui (Nat.lt_succ_self _) (by omega) (by rw [hui, show i = 17 by omega]; rfl)
      · refine q_ldc2 C cst10 dL_told_12 15 rfl ?_
        refine q_lload_n C dL_told_15 16 1 rfl rfl ?_
        refine q_lmul (v := 31 * ui) C dL_told_16 17 rfl rfl ?_
        refine q_aload_n C dL_told_17 18 2 rfl rfl ?_
        refine q_iload_n C dL_told_18 19 0 rfl rfl ?_
        refine q_callV (k := 0) (ci := 5) (n := 1) (rest := [.long (31 * ui)]) (Rr := []) C rfl (k_isX_recv hX) rfl (c_X6_count_h l hZ hI hN hG h0 aO aY aN hsn aT aK wX hX aB aL aS sc wO hO wA hA bx at0 wB hB ln wL hL sv wH hH i (by omega) hcs hws) gL_told_X6_count rfl rfl rfl (by decide +kernel) B.1 ⟨Nat.le_of_ble_eq_true rfl, Nat.le_of_ble_eq_true rfl⟩ rfl rfl (Nat.le_of_ble_eq_true rfl) dL_told_19 ⟨(Nat.le_of_ble_eq_true rfl), (Nat.le_of_ble_eq_true rfl)⟩ [0, 1, 2, 3, 4, 5] [] (by decide : ([0, 1, 2, 3, 4, 5] ++ ([] : List Nat)).Perm (List.range 6)) rfl rfl 22 rfl (fun v0 R0 t0 ht0 hp0 => ?_)
        obtain ⟨rfl, rfl⟩ := hp0
        refine q_eqs (st' := [.int (k_tc bx at0 ln sc sv.length i), .long (31 * ui)]) rfl ?_
        refine q_eqR (Rs' := [wX, wO, wA, wB, wL, wH]) rfl ?_
        refine q_i2l (v := ((k_tc bx at0 ln sc sv.length i) : Int32).toInt64) C dL_told_22 23 rfl rfl ?_
        refine q_ladd (v := (31 * ui) + (((k_tc bx at0 ln sc sv.length i) : Int32).toInt64)) C dL_told_23 24 rfl rfl ?_
        refine q_lstore_n C dL_told_24 25 rfl [(1, .long ((31 * ui) + (((k_tc bx at0 ln sc sv.length i) : Int32).toInt64))), (3, .int (nI i)), (0, .ref h0)] (by decide) rfl ?_
        refine q_iinc (v := nI (i + 1)) C dL_told_25 28 1 rfl rfl (q_ninc1 (by omega)) [(3, .int (nI (i + 1))), (1, .long ((31 * ui) + (((k_tc bx at0 ln sc sv.length i) : Int32).toInt64))), (0, .ref h0)] (by decide) rfl ?_
        refine q_goto C dL_told_28 6 (by decide) ?_
        refine q_sub (L' := [(3, .int (nI (i + 1))), (1, .long ((31 * ui) + (((k_tc bx at0 ln sc sv.length i) : Int32).toInt64))), (0, .ref h0)]) [0, 1, 2] rfl ?_
        exact ih_lp (i + 1) ((31 * ui) + (((k_tc bx at0 ln sc sv.length i) : Int32).toInt64)) (by omega) (by omega) (by rw [hui]; rfl)
  refine q_sub (L' := [(3, .int (nI 0)), (1, .long 3), (0, .ref h0)]) [0, 1, 2] rfl ?_
  exact lp _ 0 3 (Nat.lt_succ_self _) (by omega) rfl
