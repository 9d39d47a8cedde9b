set_option maxHeartbeats 400000 in
set_option maxRecDepth 100000 in
theorem c_L_returns_ok (l : Launch) {D : va_G} {tys : List (ClassId × FieldType)} {Z : (Nat → Prop) → State → Heap → Prop} (hZ : q_St Z) {cI : ClassId} (hI : tys[0]? = some (cI, .int)) (hN : q_Ns Z) {cG : ClassId} (hG : tys[1]? = some (cG, .object "SortCases$State")) (h0 : Nat) (aO : Nat) (aY : Nat) (aN : Nat) (hsn : Int32) (aT : Nat) (aK : Nat) (wX : va_W) (hX : k_isX cI h0 aO aY aN hsn aT aK wX) (aB : Nat) (aL : Nat) (aS : Nat) (sc : Nat → Int32) (wO : va_W) (hO : k_isO cI aO aB aL aS sc wO) (wA : va_W) (hA : k_isA cI aS sc wA) (bx : k_Bx) (at0 : Nat) (wB : va_W) (hB : k_isB cI aB bx at0 wB) (ln : List (Nat × Nat)) (wL : va_W) (hL : k_isL cI aL ln wL) (sv : List k_S) (wH : va_W) (hH : k_isH cG cI aY sv wH) (hcs : ∀ x, x < 12 → k_cn bx x x + k_cl ln x ≤ 6) (hws : k_ws bx ln = k_wr bx) (h2 : sc 2 = nI 0 ∨ sc 2 = nI 1) (hwy : k_wy bx ln sc = 0) : q_Ct l D tys Z yL_returns wsL_returns ({ frames := 8, cells := 0, slots := 0, locals := 252 } : Room) 0 0 [.ref h0] [wX, wO, wA, wB, wL, wH] (fun v0 R0 _ => v0 = some (.int (nI (k_wr (k_rb bx ln sc (ln).length)))) ∧ ∃ wO', k_isO cI aO aB aL aS (upd (upd sc 9 (sc 9 + nI 1)) 3 (-1)) wO' ∧ ∃ wA', k_isA cI aS (upd (upd sc 9 (sc 9 + nI 1)) 3 (-1)) wA' ∧ ∃ wB', k_isB cI aB (k_rb bx ln sc (ln).length) at0 wB' ∧ ∃ wL', k_isL cI aL (([] : List (Nat × Nat))) wL' ∧ ∃ wH', k_isH cG cI aY ((k_sav sv (bx, at0, ln, sc))) wH' ∧ R0 = [wX, wO', wA', wB', wL', wH']) := by
  have hcI := hI
  have hcG := hG
  refine q_ct (cc := cL_returns) (maxL := 4) (ret := (some .int)) (own := RL) (by decide) rfl hZ (Nat.le_of_ble_eq_true rfl) rfl ?_
  intro p9 e9 R s9 m9 args below meth c9 A Q C B
  have hts := C.2.2.2.2.1
  refine q_eqL (L' := [(0, .ref h0)]) rfl ?_
  have hll := hL.1.1
  have hok := hB.2.1
  obtain ⟨z, hz2, hz⟩ : ∃ z, z < 2 ∧ sc 2 = nI z := h2.elim (fun e => ⟨0, by decide, e⟩) (fun e => ⟨1, by decide, e⟩)
  refine q_iconst (v := nI 0) C dL_returns_0 1 rfl (by decide) ?_
  refine q_istore_n C dL_returns_1 2 rfl [(1, .int (nI 0)), (0, .ref h0)] (by decide) rfl ?_
  have lp : ∀ (kk : Nat) (b : Nat), 12 - b < kk → ∀ (hib : b ≤ 12), ∀ (hall : ∀ u, u < b → (bx u).length + k_rc ln sc u ln.length ≤ 20), q_V p9 l e9 R s9 m9 args below meth c9 D A 4 Q 0 0 2 [(1, .int (nI b)), (0, .ref h0)] [] [wX, wO, wA, wB, wL, wH] := by
    intro kk
    induction kk with
    | zero => intro b hkk; exact absurd hkk (Nat.not_lt_zero _)
    | succ kk ih_lp =>
      intro b hkk hib hall
      refine q_iload_n C dL_returns_2 3 0 rfl rfl ?_
      refine q_bipush (v := nI 12) C dL_returns_3 5 rfl (by decide) ?_
      refine q_icmp_ge C dL_returns_5 8 70 rfl (by decide) (nI_leI (by omega) (by omega)) (fun h5 => ?_) (fun h5 => ?_)
      · refine q_aload_n C dL_returns_70 71 1 rfl rfl ?_
        refine q_callV (k := 0) (ci := 5) (n := 0) (rest := []) (Rr := []) C rfl (k_isX_recv hX) rfl (c_X6_back_b l hZ hI hN hG h0 aO aY aN hsn aT aK wX hX aB aL aS sc wO hO wA hA bx at0 wB hB ln wL hL sv wH hH hwy) gL_returns_X6_back rfl rfl rfl (by decide +kernel) B.1 ⟨Nat.le_of_ble_eq_true rfl, Nat.le_of_ble_eq_true rfl⟩ rfl rfl (Nat.le_of_ble_eq_true rfl) dL_returns_71 ⟨(Nat.le_of_ble_eq_true rfl), (Nat.le_of_ble_eq_true rfl)⟩ [0, 1, 2, 3, 4, 5] [] (by decide : ([0, 1, 2, 3, 4, 5] ++ ([] : List Nat)).Perm (List.range 6)) rfl rfl 74 rfl (fun v0 R0 t0 ht0 hp0 => ?_)
        obtain ⟨rfl, wO_71, hwO_71, wA_71, hwA_71, wB_71, hwB_71, wL_71, hwL_71, wH_71, hwH_71, rfl⟩ := hp0
        refine q_eqs (st' := [.int (nI (k_wr (k_rb bx ln sc (ln).length)))]) rfl ?_
        refine q_eqR (Rs' := [wX, wO_71, wA_71, wB_71, wL_71, wH_71]) rfl ?_
        exact q_iret C B dL_returns_74 rfl rfl (fun t0 ht0 => ⟨rfl, _, hwO_71, _, hwA_71, _, hwB_71, _, hwL_71, _, hwH_71, by first | rfl | simp⟩)
      · have hlb := (hok b (by omega)).1
        refine q_aload_n C dL_returns_8 9 1 rfl rfl ?_
        refine q_iload_n C dL_returns_9 10 0 rfl rfl ?_
        refine q_iconst (v := nI 0) C dL_returns_10 11 rfl (by decide) ?_
        refine q_callV (k := 0) (ci := 5) (n := 2) (rest := []) (Rr := [wL, wH]) C rfl (k_isX_recv hX) rfl (c_X6_box_c l hZ hI hN h0 aO aY aN hsn aT aK wX hX aB aL aS sc wO hO wA hA bx at0 wB hB b 0 (by omega) (by omega)) gL_returns_X6_box rfl rfl rfl (by decide +kernel) B.1 ⟨Nat.le_of_ble_eq_true rfl, Nat.le_of_ble_eq_true rfl⟩ rfl rfl (Nat.le_of_ble_eq_true rfl) dL_returns_11 ⟨(Nat.le_of_ble_eq_true rfl), (Nat.le_of_ble_eq_true rfl)⟩ [0, 1, 2, 3] [4, 5] (by decide : ([0, 1, 2, 3] ++ ([4, 5] : List Nat)).Perm (List.range 6)) rfl rfl 14 rfl (fun v0 R0 t0 ht0 hp0 => ?_)
        obtain ⟨rfl, rfl⟩ := hp0
        refine q_eqs (st' := [.int (k_tb bx at0 sc b 0)]) rfl ?_
        refine q_eqR (Rs' := [wX, wO, wA, wB, wL, wH]) rfl ?_
        refine q_eqs (st' := [.int (nI ((bx b).length))]) (by rw [show k_tb bx at0 sc b 0 = nI ((bx b).length) from rfl]) ?_
        refine q_istore_n C dL_returns_14 15 rfl [(2, .int (nI ((bx b).length))), (1, .int (nI b)), (0, .ref h0)] (by decide) rfl ?_
        refine q_iconst (v := nI 0) C dL_returns_15 16 rfl (by decide) ?_
        refine q_istore_n C dL_returns_16 17 rfl [(3, .int (nI 0)), (2, .int (nI ((bx b).length))), (1, .int (nI b)), (0, .ref h0)] (by decide) rfl ?_
        have lp2 : ∀ (kk : Nat) (k : Nat) (n : Nat), ln.length - k < kk → ∀ (hik : k ≤ ln.length), ∀ (hn : n = (bx b).length + k_rc ln sc b k), q_V p9 l e9 R s9 m9 args below meth c9 D A 4 Q 0 0 17 [(3, .int (nI k)), (2, .int (nI n)), (1, .int (nI b)), (0, .ref h0)] [] [wX, wO, wA, wB, wL, wH] := by
          intro kk
          induction kk with
          | zero => intro k n hkk; exact absurd hkk (Nat.not_lt_zero _)
          | succ kk ih_lp2 =>
            intro k n hkk hik hn
            have hrl : k_rc ln sc b k ≤ k := k_cnt_le _ _
            refine q_iload_n C dL_returns_17 18 0 rfl rfl ?_
            refine q_aload_n C dL_returns_18 19 3 rfl rfl ?_
            refine q_iconst (v := nI 0) C dL_returns_19 20 rfl (by decide) ?_
            refine q_callV (k := 0) (ci := 5) (n := 1) (rest := [.int (nI k)]) (Rr := []) C rfl (k_isX_recv hX) rfl (c_X6_count_h l hZ hI hN hG h0 aO aY aN hsn aT aK wX hX aB aL aS sc wO hO wA hA bx at0 wB hB ln wL hL sv wH hH 0 (by omega) hcs hws) gL_returns_X6_count rfl rfl rfl (by decide +kernel) B.1 ⟨Nat.le_of_ble_eq_true rfl, Nat.le_of_ble_eq_true rfl⟩ rfl rfl (Nat.le_of_ble_eq_true rfl) dL_returns_20 ⟨(Nat.le_of_ble_eq_true rfl), (Nat.le_of_ble_eq_true rfl)⟩ [0, 1, 2, 3, 4, 5] [] (by decide : ([0, 1, 2, 3, 4, 5] ++ ([] : List Nat)).Perm (List.range 6)) rfl rfl 23 rfl (fun v0 R0 t0 ht0 hp0 => ?_)
            obtain ⟨rfl, rfl⟩ := hp0
            refine q_eqs (st' := [.int (k_tc bx at0 ln sc sv.length 0), .int (nI k)]) rfl ?_
            refine q_eqR (Rs' := [wX, wO, wA, wB, wL, wH]) rfl ?_
            refine q_eqs (st' := [.int (nI ln.length), .int (nI k)]) (by rw [show k_tc bx at0 ln sc sv.length 0 = nI ln.length from rfl]) ?_
            refine q_icmp_ge C dL_returns_23 26 55 rfl (by decide) (nI_leI (by omega) (by omega)) (fun h23 => ?_) (fun h23 => ?_)
            · refine q_iload_n C dL_returns_55 56 1 rfl rfl ?_
              refine q_bipush (v := nI 20) C dL_returns_56 58 rfl (by decide) ?_
              refine q_icmp_le C dL_returns_58 61 64 rfl (by decide) (nI_leI (by omega) (by omega)) (fun h58 => ?_) (fun h58 => False.elim (by (have e2 : k = ln.length := (by omega)); (have h9 := k_wy_inv hwy b (by omega)); (rw [e2] at hn); omega))
              refine q_iinc (v := nI (b + 1)) C dL_returns_64 67 2 rfl rfl (q_ninc1 (by omega)) [(1, .int (nI (b + 1))), (3, .int (nI k)), (2, .int (nI n)), (0, .ref h0)] (by decide) rfl ?_
              refine q_goto C dL_returns_67 2 (by decide) ?_
              refine q_sub (L' := [(1, .int (nI (b + 1))), (0, .ref h0)]) [0, 3] rfl ?_
              exact ih_lp (b + 1) (by omega) (by omega) (fun u hu => (Decidable.em (u = b)).elim (fun e => by (rw [e]); (have e2 : k = ln.length := (by omega)); (rw [e2] at hn); omega) (fun e => hall u (by omega)))
            · refine q_iload_n C dL_returns_26 27 1 rfl rfl ?_
              refine q_aload_n C dL_returns_27 28 3 rfl rfl ?_
              refine q_iload_n C dL_returns_28 29 0 rfl rfl ?_
              refine q_aload_n C dL_returns_29 30 3 rfl rfl ?_
              refine q_bipush (v := nI 16) C dL_returns_30 32 rfl (by decide) ?_
              refine q_callV (k := 0) (ci := 5) (n := 1) (rest := [.int (nI k), .ref h0, .int (nI n)]) (Rr := []) C rfl (k_isX_recv hX) rfl (c_X6_count_h l hZ hI hN hG h0 aO aY aN hsn aT aK wX hX aB aL aS sc wO hO wA hA bx at0 wB hB ln wL hL sv wH hH 16 (by omega) hcs hws) gL_returns_X6_count rfl rfl rfl (by decide +kernel) B.1 ⟨Nat.le_of_ble_eq_true rfl, Nat.le_of_ble_eq_true rfl⟩ rfl rfl (Nat.le_of_ble_eq_true rfl) dL_returns_32 ⟨(Nat.le_of_ble_eq_true rfl), (Nat.le_of_ble_eq_true rfl)⟩ [0, 1, 2, 3, 4, 5] [] (by decide : ([0, 1, 2, 3, 4, 5] ++ ([] : List Nat)).Perm (List.range 6)) rfl rfl 35 rfl (fun v0 R0 t0 ht0 hp0 => ?_)
              obtain ⟨rfl, rfl⟩ := hp0
              refine q_eqs (st' := [.int (k_tc bx at0 ln sc sv.length 16), .int (nI k), .ref h0, .int (nI n)]) rfl ?_
              refine q_eqR (Rs' := [wX, wO, wA, wB, wL, wH]) rfl ?_
              refine q_eqs (st' := [.int (nI z), .int (nI k), .ref h0, .int (nI n)]) (by rw [show k_tc bx at0 ln sc sv.length 16 = nI z from hz]) ?_
              refine q_callV (k := 0) (ci := 5) (n := 2) (rest := [.int (nI n)]) (Rr := [wH]) C rfl (k_isX_recv hX) rfl (c_X6_line_c l hZ hI hN h0 aO aY aN hsn aT aK wX hX aB aL aS sc wO hO wA hA bx at0 wB hB ln wL hL k z (by omega) (k_has_of hL.1.1 (by omega)) (by omega)) gL_returns_X6_line rfl rfl rfl (by decide +kernel) B.1 ⟨Nat.le_of_ble_eq_true rfl, Nat.le_of_ble_eq_true rfl⟩ rfl rfl (Nat.le_of_ble_eq_true rfl) dL_returns_35 ⟨(Nat.le_of_ble_eq_true rfl), (Nat.le_of_ble_eq_true rfl)⟩ [0, 1, 2, 3, 4] [5] (by decide : ([0, 1, 2, 3, 4] ++ ([5] : List Nat)).Perm (List.range 6)) rfl rfl 38 rfl (fun v0 R0 t0 ht0 hp0 => ?_)
              obtain ⟨rfl, rfl⟩ := hp0
              refine q_eqs (st' := [.int (k_tp bx ln sc k z), .int (nI n)]) rfl ?_
              refine q_eqR (Rs' := [wX, wO, wA, wB, wL, wH]) rfl ?_
              have hbl := k_bb_lt (sc := sc) (p := k) hL.1 (by omega)
              refine q_eqs (st' := [.int (nI (k_bb ln sc k)), .int (nI n)]) (by rw [show k_tp bx ln sc k z = nI (k_bb ln sc k) from k_tp_bb hz2 hz]) ?_
              refine q_iload_n C dL_returns_38 39 2 rfl rfl ?_
              refine q_icmp_ne C dL_returns_39 42 46 rfl (by decide) (nI_eq (by omega) (by omega)) (fun h39 => ?_) (fun h39 => ?_)
              · refine q_iconst (v := nI 0) C dL_returns_46 47 rfl (by decide) ?_
                refine q_iadd (v := nI n) C dL_returns_47 48 rfl (q_nadd (by omega)) ?_
                refine q_istore_n C dL_returns_48 49 rfl [(2, .int (nI n)), (3, .int (nI k)), (1, .int (nI b)), (0, .ref h0)] (by decide) rfl ?_
                refine q_iinc (v := nI (k + 1)) C dL_returns_49 52 1 rfl rfl (q_ninc1 (by omega)) [(3, .int (nI (k + 1))), (2, .int (nI n)), (1, .int (nI b)), (0, .ref h0)] (by decide) rfl ?_
                refine q_goto C dL_returns_52 17 (by decide) ?_
                refine q_sub (L' := [(3, .int (nI (k + 1))), (2, .int (nI n)), (1, .int (nI b)), (0, .ref h0)]) [0, 1, 2, 3] rfl ?_
                exact ih_lp2 (k + 1) n (by omega) (by omega) (by unfold k_rc at hn ⊢; first | (rw [k_cnt_t (by simp; omega)]; omega) | (rw [k_cnt_f (by simp; omega)]; omega))
              · refine q_iconst (v := nI 1) C dL_returns_42 43 rfl (by decide) ?_
                refine q_goto C dL_returns_43 47 (by decide) ?_
                refine q_iadd (v := nI (n + 1)) C dL_returns_47 48 rfl (q_nadd (by omega)) ?_
                refine q_istore_n C dL_returns_48 49 rfl [(2, .int (nI (n + 1))), (3, .int (nI k)), (1, .int (nI b)), (0, .ref h0)] (by decide) rfl ?_
                refine q_iinc (v := nI (k + 1)) C dL_returns_49 52 1 rfl rfl (q_ninc1 (by omega)) [(3, .int (nI (k + 1))), (2, .int (nI (n + 1))), (1, .int (nI b)), (0, .ref h0)] (by decide) rfl ?_
                refine q_goto C dL_returns_52 17 (by decide) ?_
                refine q_sub (L' := [(3, .int (nI (k + 1))), (2, .int (nI (n + 1))), (1, .int (nI b)), (0, .ref h0)]) [0, 1, 2, 3] rfl ?_
                exact ih_lp2 (k + 1) (n + 1) (by omega) (by omega) (by unfold k_rc at hn ⊢; first | (rw [k_cnt_t (by simp; omega)]; omega) | (rw [k_cnt_f (by simp; omega)]; omega))
        refine q_sub (L' := [(3, .int (nI 0)), (2, .int (nI ((bx b).length))), (1, .int (nI b)), (0, .ref h0)]) [0, 1, 2, 3] rfl ?_
        exact lp2 _ 0 ((bx b).length) (Nat.lt_succ_self _) (by omega) (by show (bx b).length = (bx b).length + 0; omega)
  refine q_sub (L' := [(1, .int (nI 0)), (0, .ref h0)]) [0, 1] rfl ?_
  exact lp _ 0 (Nat.lt_succ_self _) (by omega) (fun u hu => absurd hu (Nat.not_lt_zero u))

set_option maxHeartbeats 400000 in
set_option maxRecDepth 100000 in
theorem c_L_returns_no (l : Launch) {D : va_G} {tys : List (ClassId × FieldType)} {Z : (Nat → Prop) → State → Heap → Prop} (hZ : q_St Z) {cI : ClassId} (hI : tys[0]? = some (cI, .int)) (hN : q_Ns Z) {cG : ClassId} (hG : tys[1]? = some (cG, .object "SortCases$State")) (h0 : Nat) (aO : Nat) (aY : Nat) (aN : Nat) (hsn : Int32) (aT : Nat) (aK : Nat) (wX : va_W) (hX : k_isX cI h0 aO aY aN hsn aT aK wX) (aB : Nat) (aL : Nat) (aS : Nat) (sc : Nat → Int32) (wO : va_W) (hO : k_isO cI aO aB aL aS sc wO) (wA : va_W) (hA : k_isA cI aS sc wA) (bx : k_Bx) (at0 : Nat) (wB : va_W) (hB : k_isB cI aB bx at0 wB) (ln : List (Nat × Nat)) (wL : va_W) (hL : k_isL cI aL ln wL) (sv : List k_S) (wH : va_W) (hH : k_isH cG cI aY sv wH) (hcs : ∀ x, x < 12 → k_cn bx x x + k_cl ln x ≤ 6) (hws : k_ws bx ln = k_wr bx) (h2 : sc 2 = nI 0 ∨ sc 2 = nI 1) (hwn : ¬ k_wy bx ln sc = 0) : q_Ct l D tys Z yL_returns wsL_returns ({ frames := 8, cells := 0, slots := 0, locals := 252 } : Room) 0 0 [.ref h0] [wX, wO, wA, wB, wL, wH] (fun v0 R0 _ => v0 = some (.int (-9)) ∧ R0 = [wX, wO, wA, wB, wL, wH]) := by
  have hcI := hI
  have hcG := hG
  refine q_ct (cc := cL_returns) (maxL := 4) (ret := (some .int)) (own := RL) (by decide) rfl hZ (Nat.le_of_ble_eq_true rfl) rfl ?_
  intro p9 e9 R s9 m9 args below meth c9 A Q C B
  have hts := C.2.2.2.2.1
  refine q_eqL (L' := [(0, .ref h0)]) rfl ?_
  have hll := hL.1.1
  have hok := hB.2.1
  obtain ⟨z, hz2, hz⟩ : ∃ z, z < 2 ∧ sc 2 = nI z := h2.elim (fun e => ⟨0, by decide, e⟩) (fun e => ⟨1, by decide, e⟩)
  refine q_iconst (v := nI 0) C dL_returns_0 1 rfl (by decide) ?_
  refine q_istore_n C dL_returns_1 2 rfl [(1, .int (nI 0)), (0, .ref h0)] (by decide) rfl ?_
  have lp : ∀ (kk : Nat) (b : Nat), 12 - b < kk → ∀ (hib : b ≤ 12), ∀ (hall : ∀ u, u < b → (bx u).length + k_rc ln sc u ln.length ≤ 20), q_V p9 l e9 R s9 m9 args below meth c9 D A 4 Q 0 0 2 [(1, .int (nI b)), (0, .ref h0)] [] [wX, wO, wA, wB, wL, wH] := by
    intro kk
    induction kk with
    | zero => intro b hkk; exact absurd hkk (Nat.not_lt_zero _)
    | succ kk ih_lp =>
      intro b hkk hib hall
      refine q_iload_n C dL_returns_2 3 0 rfl rfl ?_
      refine q_bipush (v := nI 12) C dL_returns_3 5 rfl (by decide) ?_
      refine q_icmp_ge C dL_returns_5 8 70 rfl (by decide) (nI_leI (by omega) (by omega)) (fun h5 => False.elim (hwn (k_wy_0 (fun u hu => hall u (by omega))))) (fun h5 => ?_)
      have hlb := (hok b (by omega)).1
      refine q_aload_n C dL_returns_8 9 1 rfl rfl ?_
      refine q_iload_n C dL_returns_9 10 0 rfl rfl ?_
      refine q_iconst (v := nI 0) C dL_returns_10 11 rfl (by decide) ?_
      refine q_callV (k := 0) (ci := 5) (n := 2) (rest := []) (Rr := [wL, wH]) C rfl (k_isX_recv hX) rfl (c_X6_box_c l hZ hI hN h0 aO aY aN hsn aT aK wX hX aB aL aS sc wO hO wA hA bx at0 wB hB b 0 (by omega) (by omega)) gL_returns_X6_box rfl rfl rfl (by decide +kernel) B.1 ⟨Nat.le_of_ble_eq_true rfl, Nat.le_of_ble_eq_true rfl⟩ rfl rfl (Nat.le_of_ble_eq_true rfl) dL_returns_11 ⟨(Nat.le_of_ble_eq_true rfl), (Nat.le_of_ble_eq_true rfl)⟩ [0, 1, 2, 3] [4, 5] (by decide : ([0, 1, 2, 3] ++ ([4, 5] : List Nat)).Perm (List.range 6)) rfl rfl 14 rfl (fun v0 R0 t0 ht0 hp0 => ?_)
      obtain ⟨rfl, rfl⟩ := hp0
      refine q_eqs (st' := [.int (k_tb bx at0 sc b 0)]) rfl ?_
      refine q_eqR (Rs' := [wX, wO, wA, wB, wL, wH]) rfl ?_
      refine q_eqs (st' := [.int (nI ((bx b).length))]) (by rw [show k_tb bx at0 sc b 0 = nI ((bx b).length) from rfl]) ?_
      refine q_istore_n C dL_returns_14 15 rfl [(2, .int (nI ((bx b).length))), (1, .int (nI b)), (0, .ref h0)] (by decide) rfl ?_
      refine q_iconst (v := nI 0) C dL_returns_15 16 rfl (by decide) ?_
      refine q_istore_n C dL_returns_16 17 rfl [(3, .int (nI 0)), (2, .int (nI ((bx b).length))), (1, .int (nI b)), (0, .ref h0)] (by decide) rfl ?_
      have lp2 : ∀ (kk : Nat) (k : Nat) (n : Nat), ln.length - k < kk → ∀ (hik : k ≤ ln.length), ∀ (hn : n = (bx b).length + k_rc ln sc b k), q_V p9 l e9 R s9 m9 args below meth c9 D A 4 Q 0 0 17 [(3, .int (nI k)), (2, .int (nI n)), (1, .int (nI b)), (0, .ref h0)] [] [wX, wO, wA, wB, wL, wH] := by
        intro kk
        induction kk with
        | zero => intro k n hkk; exact absurd hkk (Nat.not_lt_zero _)
        | succ kk ih_lp2 =>
          intro k n hkk hik hn
          have hrl : k_rc ln sc b k ≤ k := k_cnt_le _ _
          refine q_iload_n C dL_returns_17 18 0 rfl rfl ?_
          refine q_aload_n C dL_returns_18 19 3 rfl rfl ?_
          refine q_iconst (v := nI 0) C dL_returns_19 20 rfl (by decide) ?_
          refine q_callV (k := 0) (ci := 5) (n := 1) (rest := [.int (nI k)]) (Rr := []) C rfl (k_isX_recv hX) rfl (c_X6_count_h l hZ hI hN hG h0 aO aY aN hsn aT aK wX hX aB aL aS sc wO hO wA hA bx at0 wB hB ln wL hL sv wH hH 0 (by omega) hcs hws) gL_returns_X6_count rfl rfl rfl (by decide +kernel) B.1 ⟨Nat.le_of_ble_eq_true rfl, Nat.le_of_ble_eq_true rfl⟩ rfl rfl (Nat.le_of_ble_eq_true rfl) dL_returns_20 ⟨(Nat.le_of_ble_eq_true rfl), (Nat.le_of_ble_eq_true rfl)⟩ [0, 1, 2, 3, 4, 5] [] (by decide : ([0, 1, 2, 3, 4, 5] ++ ([] : List Nat)).Perm (List.range 6)) rfl rfl 23 rfl (fun v0 R0 t0 ht0 hp0 => ?_)
          obtain ⟨rfl, rfl⟩ := hp0
          refine q_eqs (st' := [.int (k_tc bx at0 ln sc sv.length 0), .int (nI k)]) rfl ?_
          refine q_eqR (Rs' := [wX, wO, wA, wB, wL, wH]) rfl ?_
          refine q_eqs (st' := [.int (nI ln.length), .int (nI k)]) (by rw [show k_tc bx at0 ln sc sv.length 0 = nI ln.length from rfl]) ?_
          refine q_icmp_ge C dL_returns_23 26 55 rfl (by decide) (nI_leI (by omega) (by omega)) (fun h23 => ?_) (fun h23 => ?_)
          · refine q_iload_n C dL_returns_55 56 1 rfl rfl ?_
            refine q_bipush (v := nI 20) C dL_returns_56 58 rfl (by decide) ?_
            refine q_icmp_le C dL_returns_58 61 64 rfl (by decide) (nI_leI (by omega) (by omega)) (fun h58 => ?_) (fun h58 => ?_)
            · refine q_iinc (v := nI (b + 1)) C dL_returns_64 67 2 rfl rfl (q_ninc1 (by omega)) [(1, .int (nI (b + 1))), (3, .int (nI k)), (2, .int (nI n)), (0, .ref h0)] (by decide) rfl ?_
              refine q_goto C dL_returns_67 2 (by decide) ?_
              refine q_sub (L' := [(1, .int (nI (b + 1))), (0, .ref h0)]) [0, 3] rfl ?_
              exact ih_lp (b + 1) (by omega) (by omega) (fun u hu => (Decidable.em (u = b)).elim (fun e => by (rw [e]); (have e2 : k = ln.length := (by omega)); (rw [e2] at hn); omega) (fun e => hall u (by omega)))
            · refine q_bipush (v := -9) C dL_returns_61 63 rfl (by decide) ?_
              exact q_iret C B dL_returns_63 rfl rfl (fun t0 ht0 => ⟨rfl, rfl⟩)
          · refine q_iload_n C dL_returns_26 27 1 rfl rfl ?_
            refine q_aload_n C dL_returns_27 28 3 rfl rfl ?_
            refine q_iload_n C dL_returns_28 29 0 rfl rfl ?_
            refine q_aload_n C dL_returns_29 30 3 rfl rfl ?_
            refine q_bipush (v := nI 16) C dL_returns_30 32 rfl (by decide) ?_
            refine q_callV (k := 0) (ci := 5) (n := 1) (rest := [.int (nI k), .ref h0, .int (nI n)]) (Rr := []) C rfl (k_isX_recv hX) rfl (c_X6_count_h l hZ hI hN hG h0 aO aY aN hsn aT aK wX hX aB aL aS sc wO hO wA hA bx at0 wB hB ln wL hL sv wH hH 16 (by omega) hcs hws) gL_returns_X6_count rfl rfl rfl (by decide +kernel) B.1 ⟨Nat.le_of_ble_eq_true rfl, Nat.le_of_ble_eq_true rfl⟩ rfl rfl (Nat.le_of_ble_eq_true rfl) dL_returns_32 ⟨(Nat.le_of_ble_eq_true rfl), (Nat.le_of_ble_eq_true rfl)⟩ [0, 1, 2, 3, 4, 5] [] (by decide : ([0, 1, 2, 3, 4, 5] ++ ([] : List Nat)).Perm (List.range 6)) rfl rfl 35 rfl (fun v0 R0 t0 ht0 hp0 => ?_)
            obtain ⟨rfl, rfl⟩ := hp0
            refine q_eqs (st' := [.int (k_tc bx at0 ln sc sv.length 16), .int (nI k), .ref h0, .int (nI n)]) rfl ?_
            refine q_eqR (Rs' := [wX, wO, wA, wB, wL, wH]) rfl ?_
            refine q_eqs (st' := [.int (nI z), .int (nI k), .ref h0, .int (nI n)]) (by rw [show k_tc bx at0 ln sc sv.length 16 = nI z from hz]) ?_
            refine q_callV (k := 0) (ci := 5) (n := 2) (rest := [.int (nI n)]) (Rr := [wH]) C rfl (k_isX_recv hX) rfl (c_X6_line_c l hZ hI hN h0 aO aY aN hsn aT aK wX hX aB aL aS sc wO hO wA hA bx at0 wB hB ln wL hL k z (by omega) (k_has_of hL.1.1 (by omega)) (by omega)) gL_returns_X6_line rfl rfl rfl (by decide +kernel) B.1 ⟨Nat.le_of_ble_eq_true rfl, Nat.le_of_ble_eq_true rfl⟩ rfl rfl (Nat.le_of_ble_eq_true rfl) dL_returns_35 ⟨(Nat.le_of_ble_eq_true rfl), (Nat.le_of_ble_eq_true rfl)⟩ [0, 1, 2, 3, 4] [5] (by decide : ([0, 1, 2, 3, 4] ++ ([5] : List Nat)).Perm (List.range 6)) rfl rfl 38 rfl (fun v0 R0 t0 ht0 hp0 => ?_)
            obtain ⟨rfl, rfl⟩ := hp0
            refine q_eqs (st' := [.int (k_tp bx ln sc k z), .int (nI n)]) rfl ?_
            refine q_eqR (Rs' := [wX, wO, wA, wB, wL, wH]) rfl ?_
            have hbl := k_bb_lt (sc := sc) (p := k) hL.1 (by omega)
            refine q_eqs (st' := [.int (nI (k_bb ln sc k)), .int (nI n)]) (by rw [show k_tp bx ln sc k z = nI (k_bb ln sc k) from k_tp_bb hz2 hz]) ?_
            refine q_iload_n C dL_returns_38 39 2 rfl rfl ?_
            refine q_icmp_ne C dL_returns_39 42 46 rfl (by decide) (nI_eq (by omega) (by omega)) (fun h39 => ?_) (fun h39 => ?_)
            · refine q_iconst (v := nI 0) C dL_returns_46 47 rfl (by decide) ?_
              refine q_iadd (v := nI n) C dL_returns_47 48 rfl (q_nadd (by omega)) ?_
              refine q_istore_n C dL_returns_48 49 rfl [(2, .int (nI n)), (3, .int (nI k)), (1, .int (nI b)), (0, .ref h0)] (by decide) rfl ?_
              refine q_iinc (v := nI (k + 1)) C dL_returns_49 52 1 rfl rfl (q_ninc1 (by omega)) [(3, .int (nI (k + 1))), (2, .int (nI n)), (1, .int (nI b)), (0, .ref h0)] (by decide) rfl ?_
              refine q_goto C dL_returns_52 17 (by decide) ?_
              refine q_sub (L' := [(3, .int (nI (k + 1))), (2, .int (nI n)), (1, .int (nI b)), (0, .ref h0)]) [0, 1, 2, 3] rfl ?_
              exact ih_lp2 (k + 1) n (by omega) (by omega) (by unfold k_rc at hn ⊢; first | (rw [k_cnt_t (by simp; omega)]; omega) | (rw [k_cnt_f (by simp; omega)]; omega))
            · refine q_iconst (v := nI 1) C dL_returns_42 43 rfl (by decide) ?_
              refine q_goto C dL_returns_43 47 (by decide) ?_
              refine q_iadd (v := nI (n + 1)) C dL_returns_47 48 rfl (q_nadd (by omega)) ?_
              refine q_istore_n C dL_returns_48 49 rfl [(2, .int (nI (n + 1))), (3, .int (nI k)), (1, .int (nI b)), (0, .ref h0)] (by decide) rfl ?_
              refine q_iinc (v := nI (k + 1)) C dL_returns_49 52 1 rfl rfl (q_ninc1 (by omega)) [(3, .int (nI (k + 1))), (2, .int (nI (n + 1))), (1, .int (nI b)), (0, .ref h0)] (by decide) rfl ?_
              refine q_goto C dL_returns_52 17 (by decide) ?_
              refine q_sub (L' := [(3, .int (nI (k + 1))), (2, .int (nI (n + 1))), (1, .int (nI b)), (0, .ref h0)]) [0, 1, 2, 3] rfl ?_
              exact ih_lp2 (k + 1) (n + 1) (by omega) (by omega) (by unfold k_rc at hn ⊢; first | (rw [k_cnt_t (by simp; omega)]; omega) | (rw [k_cnt_f (by simp; omega)]; omega))
      refine q_sub (L' := [(3, .int (nI 0)), (2, .int (nI ((bx b).length))), (1, .int (nI b)), (0, .ref h0)]) [0, 1, 2, 3] rfl ?_
      exact lp2 _ 0 ((bx b).length) (Nat.lt_succ_self _) (by omega) (by show (bx b).length = (bx b).length + 0; omega)
  refine q_sub (L' := [(1, .int (nI 0)), (0, .ref h0)]) [0, 1] rfl ?_
  exact lp _ 0 (Nat.lt_succ_self _) (by omega) (fun u hu => absurd hu (Nat.not_lt_zero u))

set_option maxHeartbeats 400000 in
set_option maxRecDepth 100000 in
theorem c_L_isHand (l : Launch) {D : va_G} {tys : List (ClassId × FieldType)} {Z : (Nat → Prop) → State → Heap → Prop} (hZ : q_St Z) {cI : ClassId} (hI : tys[0]? = some (cI, .int)) (hN : q_Ns Z) {cG : ClassId} (hG : tys[1]? = some (cG, .object "SortCases$State")) (h0 : Nat) (aO : Nat) (aY : Nat) (aN : Nat) (hsn : Int32) (aT : Nat) (aK : Nat) (wX : va_W) (hX : k_isX cI h0 aO aY aN hsn aT aK wX) (aB : Nat) (aL : Nat) (aS : Nat) (sc : Nat → Int32) (wO : va_W) (hO : k_isO cI aO aB aL aS sc wO) (wA : va_W) (hA : k_isA cI aS sc wA) (bx : k_Bx) (at0 : Nat) (wB : va_W) (hB : k_isB cI aB bx at0 wB) (ln : List (Nat × Nat)) (wL : va_W) (hL : k_isL cI aL ln wL) (sv : List k_S) (wH : va_W) (hH : k_isH cG cI aY sv wH) (c : Nat) (hIv : k_Iv (bx, at0, ln, sc)) (hsv : sv.length ≤ 5) (hc : c < 12) : q_Ct l D tys Z yL_isHand wsL_isHand ({ frames := 9, cells := 0, slots := 0, locals := 282 } : Room) 0 0 [.ref h0, .int (nI c)] [wX, wO, wA, wB, wL, wH] (fun v0 R0 _ => v0 = some (.int (q_b true)) ∧ ∃ wO', k_isO cI aO aB aL aS sc wO' ∧ ∃ wA', k_isA cI aS sc wA' ∧ ∃ wB', k_isB cI aB bx at0 wB' ∧ ∃ wL', k_isL cI aL ln wL' ∧ ∃ wH', k_isH cG cI aY sv wH' ∧ R0 = [wX, wO', wA', wB', wL', wH']) := by
  have hcI := hI
  have hcG := hG
  refine q_ct (cc := cL_isHand) (maxL := 8) (ret := (some .boolean)) (own := RL) (by decide) rfl hZ (Nat.le_of_ble_eq_true rfl) rfl ?_
  intro p9 e9 R s9 m9 args below meth c9 A Q C B
  have hts := C.2.2.2.2.1
  refine q_eqL (L' := [(0, .ref h0), (1, .int (nI c))]) rfl ?_
  have hll := hL.1.1
  have hok := hB.2.1
  have hcs := k_Cv_cs (S := (bx, at0, ln, sc)) hIv.2
  have hws := k_Cv_ws (S := (bx, at0, ln, sc)) hok hIv.2
  have hwnl := k_wn_le bx ln sc c
  refine q_aload_n C dL_isHand_0 1 0 rfl rfl ?_
  refine q_iload_n C dL_isHand_1 2 1 rfl rfl ?_
  refine q_callV (k := 0) (ci := 5) (n := 1) (rest := []) (Rr := [wH]) C rfl (k_isX_recv hX) rfl (c_X6_whyNot_b l hZ hI hN h0 aO aY aN hsn aT aK wX hX aB aL aS sc wO hO wA hA bx at0 wB hB ln wL hL c (by omega)) gL_isHand_X6_whyNot rfl rfl rfl (by decide +kernel) B.1 ⟨Nat.le_of_ble_eq_true rfl, Nat.le_of_ble_eq_true rfl⟩ rfl rfl (Nat.le_of_ble_eq_true rfl) dL_isHand_2 ⟨(Nat.le_of_ble_eq_true rfl), (Nat.le_of_ble_eq_true rfl)⟩ [0, 1, 2, 3, 4] [5] (by decide : ([0, 1, 2, 3, 4] ++ ([5] : List Nat)).Perm (List.range 6)) rfl rfl 5 rfl (fun v0 R0 t0 ht0 hp0 => ?_)
  obtain ⟨rfl, rfl⟩ := hp0
  refine q_eqs (st' := [.int (nI (k_wn bx ln sc c))]) rfl ?_
  refine q_eqR (Rs' := [wX, wO, wA, wB, wL, wH]) rfl ?_
  refine q_if_eq C dL_isHand_5 8 10 rfl (by decide) (q_eq0 (by omega)) (fun h5 => ?_) (fun h5 => ?_)
  · have hw0 : k_wn bx ln sc c = 0 := by omega
    have he0 := (k_wn_inv hw0).1
    have hlc := (hok c hc).1
    have hxl := k_x_lt hok hc he0
    have hIs := k_Iv_set hIv hc hw0
    have hsl := k_sav_le (S := (bx, at0, ln, sc)) hsv
    refine q_aload_n C dL_isHand_10 11 0 rfl rfl ?_
    refine q_iload_n C dL_isHand_11 12 1 rfl rfl ?_
    refine q_iconst (v := nI 0) C dL_isHand_12 13 rfl (by decide) ?_
    refine q_callV (k := 0) (ci := 5) (n := 2) (rest := []) (Rr := [wL, wH]) C rfl (k_isX_recv hX) rfl (c_X6_box_c l hZ hI hN h0 aO aY aN hsn aT aK wX hX aB aL aS sc wO hO wA hA bx at0 wB hB c 0 (by omega) (by omega)) gL_isHand_X6_box rfl rfl rfl (by decide +kernel) B.1 ⟨Nat.le_of_ble_eq_true rfl, Nat.le_of_ble_eq_true rfl⟩ rfl rfl (Nat.le_of_ble_eq_true rfl) dL_isHand_13 ⟨(Nat.le_of_ble_eq_true rfl), (Nat.le_of_ble_eq_true rfl)⟩ [0, 1, 2, 3] [4, 5] (by decide : ([0, 1, 2, 3] ++ ([4, 5] : List Nat)).Perm (List.range 6)) rfl rfl 16 rfl (fun v0 R0 t0 ht0 hp0 => ?_)
    obtain ⟨rfl, rfl⟩ := hp0
    refine q_eqs (st' := [.int (k_tb bx at0 sc c 0)]) rfl ?_
    refine q_eqR (Rs' := [wX, wO, wA, wB, wL, wH]) rfl ?_
    refine q_eqs (st' := [.int (nI ((bx c).length))]) (by rw [show k_tb bx at0 sc c 0 = nI ((bx c).length) from rfl]) ?_
    refine q_istore_n C dL_isHand_16 17 rfl [(2, .int (nI ((bx c).length))), (0, .ref h0), (1, .int (nI c))] (by decide) rfl ?_
    refine q_aload_n C dL_isHand_17 18 1 rfl rfl ?_
    refine q_iload_n C dL_isHand_18 19 2 rfl rfl ?_
    refine q_iconst (v := nI 2) C dL_isHand_19 20 rfl (by decide) ?_
    refine q_callV (k := 0) (ci := 5) (n := 2) (rest := []) (Rr := [wL, wH]) C rfl (k_isX_recv hX) rfl (c_X6_box_c l hZ hI hN h0 aO aY aN hsn aT aK wX hX aB aL aS sc wO hO wA hA bx at0 wB hB c 2 (by omega) (by omega)) gL_isHand_X6_box rfl rfl rfl (by decide +kernel) B.1 ⟨Nat.le_of_ble_eq_true rfl, Nat.le_of_ble_eq_true rfl⟩ rfl rfl (Nat.le_of_ble_eq_true rfl) dL_isHand_20 ⟨(Nat.le_of_ble_eq_true rfl), (Nat.le_of_ble_eq_true rfl)⟩ [0, 1, 2, 3] [4, 5] (by decide : ([0, 1, 2, 3] ++ ([4, 5] : List Nat)).Perm (List.range 6)) rfl rfl 23 rfl (fun v0 R0 t0 ht0 hp0 => ?_)
    obtain ⟨rfl, rfl⟩ := hp0
    refine q_eqs (st' := [.int (k_tb bx at0 sc c 2)]) rfl ?_
    refine q_eqR (Rs' := [wX, wO, wA, wB, wL, wH]) rfl ?_
    refine q_eqs (st' := [.int (nI (k_x bx c))]) (by rw [show k_tb bx at0 sc c 2 = nI (k_x bx c) from k_top_some (by omega)]) ?_
    refine q_istore_n C dL_isHand_23 24 rfl [(3, .int (nI (k_x bx c))), (2, .int (nI ((bx c).length))), (0, .ref h0), (1, .int (nI c))] (by decide) rfl ?_
    refine q_aload_n C dL_isHand_24 25 2 rfl rfl ?_
    refine q_bipush (v := nI 11) C dL_isHand_25 27 rfl (by decide) ?_
    refine q_callV (k := 0) (ci := 5) (n := 1) (rest := []) (Rr := []) C rfl (k_isX_recv hX) rfl (c_X6_count_h l hZ hI hN hG h0 aO aY aN hsn aT aK wX hX aB aL aS sc wO hO wA hA bx at0 wB hB ln wL hL sv wH hH 11 (by omega) hcs hws) gL_isHand_X6_count rfl rfl rfl (by decide +kernel) B.1 ⟨Nat.le_of_ble_eq_true rfl, Nat.le_of_ble_eq_true rfl⟩ rfl rfl (Nat.le_of_ble_eq_true rfl) dL_isHand_27 ⟨(Nat.le_of_ble_eq_true rfl), (Nat.le_of_ble_eq_true rfl)⟩ [0, 1, 2, 3, 4, 5] [] (by decide : ([0, 1, 2, 3, 4, 5] ++ ([] : List Nat)).Perm (List.range 6)) rfl rfl 30 rfl (fun v0 R0 t0 ht0 hp0 => ?_)
    obtain ⟨rfl, rfl⟩ := hp0
    refine q_eqs (st' := [.int (k_tc bx at0 ln sc sv.length 11)]) rfl ?_
    refine q_eqR (Rs' := [wX, wO, wA, wB, wL, wH]) rfl ?_
    refine q_eqs (st' := [.int (sc 7)]) (by rw [show k_tc bx at0 ln sc sv.length 11 = sc 7 from rfl]) ?_
    refine q_istore C dL_isHand_30 32 rfl [(4, .int (sc 7)), (3, .int (nI (k_x bx c))), (2, .int (nI ((bx c).length))), (0, .ref h0), (1, .int (nI c))] (by decide) rfl ?_
    refine q_aload_n C dL_isHand_32 33 3 rfl rfl ?_
    refine q_callS (n := 1) (rest := []) (Rr := []) C (c_L_told l hZ hI hN hG h0 aO aY aN hsn aT aK wX hX aB aL aS sc wO hO wA hA bx at0 wB hB ln wL hL sv wH hH hcs hws) gL_isHand_L_told rfl rfl rfl (by decide +kernel) B.1 ⟨Nat.le_of_ble_eq_true rfl, Nat.le_of_ble_eq_true rfl⟩ rfl rfl (Nat.le_of_ble_eq_true rfl) dL_isHand_33 ⟨(Nat.le_of_ble_eq_true rfl), (Nat.le_of_ble_eq_true rfl)⟩ [0, 1, 2, 3, 4, 5] [] (by decide : ([0, 1, 2, 3, 4, 5] ++ ([] : List Nat)).Perm (List.range 6)) rfl rfl 36 rfl (fun v0 R0 t0 ht0 hp0 => ?_)
    obtain ⟨rfl, rfl⟩ := hp0
    refine q_eqs (st' := [.long (k_told (bx, at0, ln, sc))]) rfl ?_
    refine q_eqR (Rs' := [wX, wO, wA, wB, wL, wH]) rfl ?_
    refine q_lstore C dL_isHand_36 38 rfl [(5, .long (k_told (bx, at0, ln, sc))), (4, .int (sc 7)), (3, .int (nI (k_x bx c))), (2, .int (nI ((bx c).length))), (0, .ref h0), (1, .int (nI c))] (by decide) rfl ?_
    refine q_aload_n C dL_isHand_38 39 4 rfl rfl ?_
    refine q_iload_n C dL_isHand_39 40 5 rfl rfl ?_
    refine q_callV (k := 0) (ci := 5) (n := 1) (rest := []) (Rr := []) C rfl (k_isX_recv hX) rfl (c_X6_set_c l hZ hI hN hG h0 aO aY aN hsn aT aK wX hX aB aL aS sc wO hO wA hA bx at0 wB hB ln wL hL sv wH hH c (by omega) hw0 hIv.1) gL_isHand_X6_set rfl rfl rfl (by decide +kernel) B.1 ⟨Nat.le_of_ble_eq_true rfl, Nat.le_of_ble_eq_true rfl⟩ rfl rfl (Nat.le_of_ble_eq_true rfl) dL_isHand_40 ⟨(Nat.le_of_ble_eq_true rfl), (Nat.le_of_ble_eq_true rfl)⟩ [0, 1, 2, 3, 4, 5] [] (by decide : ([0, 1, 2, 3, 4, 5] ++ ([] : List Nat)).Perm (List.range 6)) rfl rfl 43 rfl (fun v0 R0 t0 ht0 hp0 => ?_)
    obtain ⟨rfl, wO_40, hwO_40, wA_40, hwA_40, wB_40, hwB_40, wL_40, hwL_40, wH_40, hwH_40, rfl⟩ := hp0
    refine q_eqs (st' := [.int (nI (k_x bx c))]) rfl ?_
    refine q_eqR (Rs' := [wX, wO_40, wA_40, wB_40, wL_40, wH_40]) rfl ?_
    refine q_iload_n C dL_isHand_43 44 2 rfl rfl ?_
    refine q_icmp_ne C dL_isHand_44 47 91 rfl (by decide) (nI_eq (by omega) (by omega)) (fun h44 => False.elim (by first | omega | simp_all)) (fun h44 => ?_)
    refine q_aload_n C dL_isHand_47 48 4 rfl rfl ?_
    refine q_iload_n C dL_isHand_48 49 5 rfl rfl ?_
    refine q_iconst (v := nI 0) C dL_isHand_49 50 rfl (by decide) ?_
    refine q_callV (k := 0) (ci := 5) (n := 2) (rest := []) (Rr := [wL_40, wH_40]) C rfl (k_isX_recv hX) rfl (c_X6_box_c l hZ hI hN h0 aO aY aN hsn aT aK wX hX aB aL aS ((k_set (bx, at0, ln, sc) c).2.2.2) wO_40 hwO_40 wA_40 hwA_40 ((k_set (bx, at0, ln, sc) c).1) ((k_set (bx, at0, ln, sc) c).2.1) wB_40 hwB_40 c 0 (by omega) (by omega)) gL_isHand_X6_box rfl rfl rfl (by decide +kernel) B.1 ⟨Nat.le_of_ble_eq_true rfl, Nat.le_of_ble_eq_true rfl⟩ rfl rfl (Nat.le_of_ble_eq_true rfl) dL_isHand_50 ⟨(Nat.le_of_ble_eq_true rfl), (Nat.le_of_ble_eq_true rfl)⟩ [0, 1, 2, 3] [4, 5] (by decide : ([0, 1, 2, 3] ++ ([4, 5] : List Nat)).Perm (List.range 6)) rfl rfl 53 rfl (fun v0 R0 t0 ht0 hp0 => ?_)
    obtain ⟨rfl, rfl⟩ := hp0
    refine q_eqs (st' := [.int (k_tb ((k_set (bx, at0, ln, sc) c).1) ((k_set (bx, at0, ln, sc) c).2.1) ((k_set (bx, at0, ln, sc) c).2.2.2) c 0)]) rfl ?_
    refine q_eqR (Rs' := [wX, wO_40, wA_40, wB_40, wL_40, wH_40]) rfl ?_
    refine q_eqs (st' := [.int (nI ((bx c).length - 1))]) (by rw [show k_tb ((k_set (bx, at0, ln, sc) c).1) ((k_set (bx, at0, ln, sc) c).2.1) ((k_set (bx, at0, ln, sc) c).2.2.2) c 0 = nI ((bx c).length - 1) from congrArg nI (k_set_len (S := (bx, at0, ln, sc)) hIv.1.1 hc)]) ?_
    refine q_iload_n C dL_isHand_53 54 3 rfl rfl ?_
    refine q_iconst (v := nI 1) C dL_isHand_54 55 rfl (by decide) ?_
    refine q_isub (v := nI ((bx c).length - 1)) C dL_isHand_55 56 rfl (q_nsub (by omega) (by omega)) ?_
    refine q_icmp_ne C dL_isHand_56 59 91 rfl (by decide) (nI_eq (by omega) (by omega)) (fun h56 => False.elim (by first | omega | simp_all)) (fun h56 => ?_)
    refine q_aload_n C dL_isHand_59 60 4 rfl rfl ?_
    refine q_bipush (v := nI 7) C dL_isHand_60 62 rfl (by decide) ?_
    refine q_callV (k := 0) (ci := 5) (n := 1) (rest := []) (Rr := []) C rfl (k_isX_recv hX) rfl (c_X6_count_h l hZ hI hN hG h0 aO aY aN hsn aT aK wX hX aB aL aS ((k_set (bx, at0, ln, sc) c).2.2.2) wO_40 hwO_40 wA_40 hwA_40 ((k_set (bx, at0, ln, sc) c).1) ((k_set (bx, at0, ln, sc) c).2.1) wB_40 hwB_40 (ln ++ [(k_x bx c, c)]) wL_40 hwL_40 ((k_sav sv (bx, at0, ln, sc))) wH_40 hwH_40 7 (by omega) (k_Cv_cs hIs.2) (k_Cv_ws hIs.1.1.2.1 hIs.2)) gL_isHand_X6_count rfl rfl rfl (by decide +kernel) B.1 ⟨Nat.le_of_ble_eq_true rfl, Nat.le_of_ble_eq_true rfl⟩ rfl rfl (Nat.le_of_ble_eq_true rfl) dL_isHand_62 ⟨(Nat.le_of_ble_eq_true rfl), (Nat.le_of_ble_eq_true rfl)⟩ [0, 1, 2, 3, 4, 5] [] (by decide : ([0, 1, 2, 3, 4, 5] ++ ([] : List Nat)).Perm (List.range 6)) rfl rfl 65 rfl (fun v0 R0 t0 ht0 hp0 => ?_)
    obtain ⟨rfl, rfl⟩ := hp0
    refine q_eqs (st' := [.int (k_tc ((k_set (bx, at0, ln, sc) c).1) ((k_set (bx, at0, ln, sc) c).2.1) (ln ++ [(k_x bx c, c)]) ((k_set (bx, at0, ln, sc) c).2.2.2) ((k_sav sv (bx, at0, ln, sc))).length 7)]) rfl ?_
    refine q_eqR (Rs' := [wX, wO_40, wA_40, wB_40, wL_40, wH_40]) rfl ?_
    refine q_eqs (st' := [.int (nI c)]) (by rw [show k_tc ((k_set (bx, at0, ln, sc) c).1) ((k_set (bx, at0, ln, sc) c).2.1) (ln ++ [(k_x bx c, c)]) ((k_set (bx, at0, ln, sc) c).2.2.2) ((k_sav sv (bx, at0, ln, sc))).length 7 = nI c from k_set_3 _ _]) ?_
    refine q_iload_n C dL_isHand_65 66 5 rfl rfl ?_
    refine q_icmp_ne C dL_isHand_66 69 91 rfl (by decide) (nI_eq (by omega) (by omega)) (fun h66 => False.elim (by first | omega | simp_all)) (fun h66 => ?_)
    refine q_aload_n C dL_isHand_69 70 4 rfl rfl ?_
    refine q_bipush (v := nI 11) C dL_isHand_70 72 rfl (by decide) ?_
    refine q_callV (k := 0) (ci := 5) (n := 1) (rest := []) (Rr := []) C rfl (k_isX_recv hX) rfl (c_X6_count_h l hZ hI hN hG h0 aO aY aN hsn aT aK wX hX aB aL aS ((k_set (bx, at0, ln, sc) c).2.2.2) wO_40 hwO_40 wA_40 hwA_40 ((k_set (bx, at0, ln, sc) c).1) ((k_set (bx, at0, ln, sc) c).2.1) wB_40 hwB_40 (ln ++ [(k_x bx c, c)]) wL_40 hwL_40 ((k_sav sv (bx, at0, ln, sc))) wH_40 hwH_40 11 (by omega) (k_Cv_cs hIs.2) (k_Cv_ws hIs.1.1.2.1 hIs.2)) gL_isHand_X6_count rfl rfl rfl (by decide +kernel) B.1 ⟨Nat.le_of_ble_eq_true rfl, Nat.le_of_ble_eq_true rfl⟩ rfl rfl (Nat.le_of_ble_eq_true rfl) dL_isHand_72 ⟨(Nat.le_of_ble_eq_true rfl), (Nat.le_of_ble_eq_true rfl)⟩ [0, 1, 2, 3, 4, 5] [] (by decide : ([0, 1, 2, 3, 4, 5] ++ ([] : List Nat)).Perm (List.range 6)) rfl rfl 75 rfl (fun v0 R0 t0 ht0 hp0 => ?_)
    obtain ⟨rfl, rfl⟩ := hp0
    refine q_eqs (st' := [.int (k_tc ((k_set (bx, at0, ln, sc) c).1) ((k_set (bx, at0, ln, sc) c).2.1) (ln ++ [(k_x bx c, c)]) ((k_set (bx, at0, ln, sc) c).2.2.2) ((k_sav sv (bx, at0, ln, sc))).length 11)]) rfl ?_
    refine q_eqR (Rs' := [wX, wO_40, wA_40, wB_40, wL_40, wH_40]) rfl ?_
    refine q_eqs (st' := [.int (sc 7 + nI (k_n1 sc))]) (by rw [show k_tc ((k_set (bx, at0, ln, sc) c).1) ((k_set (bx, at0, ln, sc) c).2.1) (ln ++ [(k_x bx c, c)]) ((k_set (bx, at0, ln, sc) c).2.2.2) ((k_sav sv (bx, at0, ln, sc))).length 11 = sc 7 + nI (k_n1 sc) from k_set_7 _ _]) ?_
    refine q_iload C dL_isHand_75 77 1 rfl rfl ?_
    refine q_aload_n C dL_isHand_77 78 4 rfl rfl ?_
    refine q_bipush (v := nI 15) C dL_isHand_78 80 rfl (by decide) ?_
    refine q_callV (k := 0) (ci := 5) (n := 1) (rest := [.int (sc 7), .int (sc 7 + nI (k_n1 sc))]) (Rr := []) C rfl (k_isX_recv hX) rfl (c_X6_count_h l hZ hI hN hG h0 aO aY aN hsn aT aK wX hX aB aL aS ((k_set (bx, at0, ln, sc) c).2.2.2) wO_40 hwO_40 wA_40 hwA_40 ((k_set (bx, at0, ln, sc) c).1) ((k_set (bx, at0, ln, sc) c).2.1) wB_40 hwB_40 (ln ++ [(k_x bx c, c)]) wL_40 hwL_40 ((k_sav sv (bx, at0, ln, sc))) wH_40 hwH_40 15 (by omega) (k_Cv_cs hIs.2) (k_Cv_ws hIs.1.1.2.1 hIs.2)) gL_isHand_X6_count rfl rfl rfl (by decide +kernel) B.1 ⟨Nat.le_of_ble_eq_true rfl, Nat.le_of_ble_eq_true rfl⟩ rfl rfl (Nat.le_of_ble_eq_true rfl) dL_isHand_80 ⟨(Nat.le_of_ble_eq_true rfl), (Nat.le_of_ble_eq_true rfl)⟩ [0, 1, 2, 3, 4, 5] [] (by decide : ([0, 1, 2, 3, 4, 5] ++ ([] : List Nat)).Perm (List.range 6)) rfl rfl 83 rfl (fun v0 R0 t0 ht0 hp0 => ?_)
    obtain ⟨rfl, rfl⟩ := hp0
    refine q_eqs (st' := [.int (k_tc ((k_set (bx, at0, ln, sc) c).1) ((k_set (bx, at0, ln, sc) c).2.1) (ln ++ [(k_x bx c, c)]) ((k_set (bx, at0, ln, sc) c).2.2.2) ((k_sav sv (bx, at0, ln, sc))).length 15), .int (sc 7), .int (sc 7 + nI (k_n1 sc))]) rfl ?_
    refine q_eqR (Rs' := [wX, wO_40, wA_40, wB_40, wL_40, wH_40]) rfl ?_
    refine q_eqs (st' := [.int (nI (k_n1 sc)), .int (sc 7), .int (sc 7 + nI (k_n1 sc))]) (by rw [show k_tc ((k_set (bx, at0, ln, sc) c).1) ((k_set (bx, at0, ln, sc) c).2.1) (ln ++ [(k_x bx c, c)]) ((k_set (bx, at0, ln, sc) c).2.2.2) ((k_sav sv (bx, at0, ln, sc))).length 15 = nI (k_n1 sc) from (k_set_sc (S := (bx, at0, ln, sc)) (c := c) (j := 1) (by decide)).trans hIv.1.2.2.1]) ?_
    refine q_iadd (v := (sc 7) + (nI (k_n1 sc))) C dL_isHand_83 84 rfl rfl ?_
    refine q_icmp_ne C dL_isHand_84 87 91 rfl (by decide) Iff.rfl (fun h84 => False.elim (h84 rfl)) (fun h84 => ?_)
    refine q_iconst (v := nI 1) C dL_isHand_87 88 rfl (by decide) ?_
    refine q_goto C dL_isHand_88 92 (by decide) ?_
    refine q_istore C dL_isHand_92 94 rfl [(7, .int (nI 1)), (5, .long (k_told (bx, at0, ln, sc))), (4, .int (sc 7)), (3, .int (nI (k_x bx c))), (2, .int (nI ((bx c).length))), (0, .ref h0), (1, .int (nI c))] (by decide) rfl ?_
    refine q_aload_n C dL_isHand_94 95 5 rfl rfl ?_
    refine q_callV (k := 0) (ci := 5) (n := 0) (rest := []) (Rr := []) C rfl (k_isX_recv hX) rfl (c_X6_undo_b l hZ hI hN hG h0 aO aY aN hsn aT aK wX hX aB aL aS ((k_set (bx, at0, ln, sc) c).2.2.2) wO_40 hwO_40 wA_40 hwA_40 ((k_set (bx, at0, ln, sc) c).1) ((k_set (bx, at0, ln, sc) c).2.1) wB_40 hwB_40 (ln ++ [(k_x bx c, c)]) wL_40 hwL_40 ((k_sav sv (bx, at0, ln, sc))) wH_40 hwH_40 (by omega)) gL_isHand_X6_undo rfl rfl rfl (by decide +kernel) B.1 ⟨Nat.le_of_ble_eq_true rfl, Nat.le_of_ble_eq_true rfl⟩ rfl rfl (Nat.le_of_ble_eq_true rfl) dL_isHand_95 ⟨(Nat.le_of_ble_eq_true rfl), (Nat.le_of_ble_eq_true rfl)⟩ [0, 1, 2, 3, 4, 5] [] (by decide : ([0, 1, 2, 3, 4, 5] ++ ([] : List Nat)).Perm (List.range 6)) rfl rfl 98 rfl (fun v0 R0 t0 ht0 hp0 => ?_)
    obtain ⟨rfl, wO_95, hwO_95, wA_95, hwA_95, wB_95, hwB_95, wL_95, hwL_95, wH_95, hwH_95, rfl⟩ := hp0
    refine q_eqs (st' := [.int (nI (((k_sav sv (bx, at0, ln, sc))).length - 1))]) rfl ?_
    refine q_eqR (Rs' := [wX, wO_95, wA_95, wB_95, wL_95, wH_95]) rfl ?_
    have e98 := k_nw_sav sv (bx, at0, ln, sc)
    have hzO : k_isO cI aO aB aL aS sc wO_95 := by have h9 := hwO_95; rw [e98] at h9; exact h9
    have hzA : k_isA cI aS sc wA_95 := by have h9 := hwA_95; rw [e98] at h9; exact h9
    have hzB : k_isB cI aB bx at0 wB_95 := by have h9 := hwB_95; rw [e98] at h9; exact h9
    have hzL : k_isL cI aL ln wL_95 := by have h9 := hwL_95; rw [e98] at h9; exact h9
    have hzH : k_isH cG cI aY sv wH_95 := by have h9 := hwH_95; rw [k_sav_dl hsv] at h9; exact h9
    refine q_pop C dL_isHand_98 99 rfl rfl ?_
    refine q_iload C dL_isHand_99 101 0 rfl rfl ?_
    refine q_if_eq C dL_isHand_101 104 118 rfl (by decide) (q_eq0 (by omega)) (fun h101 => False.elim (by first | omega | simp_all)) (fun h101 => ?_)
    refine q_aload_n C dL_isHand_104 105 5 rfl rfl ?_
    refine q_callS (n := 1) (rest := []) (Rr := []) C (c_L_told l hZ hI hN hG h0 aO aY aN hsn aT aK wX hX aB aL aS sc wO_95 hzO wA_95 hzA bx at0 wB_95 hzB ln wL_95 hzL sv wH_95 hzH hcs hws) gL_isHand_L_told rfl rfl rfl (by decide +kernel) B.1 ⟨Nat.le_of_ble_eq_true rfl, Nat.le_of_ble_eq_true rfl⟩ rfl rfl (Nat.le_of_ble_eq_true rfl) dL_isHand_105 ⟨(Nat.le_of_ble_eq_true rfl), (Nat.le_of_ble_eq_true rfl)⟩ [0, 1, 2, 3, 4, 5] [] (by decide : ([0, 1, 2, 3, 4, 5] ++ ([] : List Nat)).Perm (List.range 6)) rfl rfl 108 rfl (fun v0 R0 t0 ht0 hp0 => ?_)
    obtain ⟨rfl, rfl⟩ := hp0
    refine q_eqs (st' := [.long (k_told (bx, at0, ln, sc))]) rfl ?_
    refine q_eqR (Rs' := [wX, wO_95, wA_95, wB_95, wL_95, wH_95]) rfl ?_
    refine q_lload C dL_isHand_108 110 1 rfl rfl ?_
    refine q_lcmp C dL_isHand_110 111 rfl ?_
    refine q_if_ne C dL_isHand_111 114 118 rfl (by decide) Iff.rfl (fun h111 => False.elim (h111 (lg_self _))) (fun h111 => ?_)
    refine q_iconst (v := nI 1) C dL_isHand_114 115 rfl (by decide) ?_
    refine q_goto C dL_isHand_115 119 (by decide) ?_
    exact q_zret C B (by decide) dL_isHand_119 rfl rfl (fun t0 ht0 => ⟨rfl, _, hzO, _, hzA, _, hzB, _, hzL, _, hzH, rfl⟩)
  · refine q_iconst (v := nI 1) C dL_isHand_8 9 rfl (by decide) ?_
    exact q_zret C B (by decide) dL_isHand_9 rfl rfl (fun t0 ht0 => ⟨rfl, _, hO, _, hA, _, hB, _, hL, _, hH, rfl⟩)
