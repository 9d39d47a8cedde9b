set_option maxHeartbeats 400000 in
set_option maxRecDepth 100000 in
theorem c_X7_work_a (l : Launch) {D : va_G} {tys : List (ClassId × FieldType)} {Z : (Nat → Prop) → State → Heap → Prop} (hZ : q_St Z) {cI : ClassId} (hI : tys[0]? = some (cI, .int)) (h0 : Nat) (aS : Nat) (aZ : Nat) (aV : Nat) (aN : Nat) (aU : Nat) (aD : Nat) (fd : Nat → Int32) (hh : Int64) (wP : va_W) (hP : k_isP cI h0 aS aZ aV aN aU aD fd hh wP) (tx : List Nat) (wU : va_W) (hU : k_isU cI aU tx wU) (dx : List Nat) (ps : List Nat) (wD : va_W) (hD : k_isD cI aD dx ps wD) (q8 : fd 8 = nI tx.length) (hbad : (k_rd tx).2 = false) : q_Ct l D tys Z yX7_work wsX7_work ({ frames := 9, cells := 0, slots := 0, locals := 282 } : Room) 0 0 [.ref h0] [wP, wU, wD] (fun v0 R0 _ => v0 = some (.int (nI 0)) ∧ ∃ wP', k_isP cI h0 aS aZ aV aN aU aD (upd (upd (upd (upd (upd fd 0 (nI 0)) 10 (q_b (k_rd tx).2)) 9 (nI (k_rd tx).1)) 12 (nI (k_rp tx).length)) 0 (nI 1)) hh wP' ∧ ∃ wD', k_isD cI aD tx (k_rp tx) wD' ∧ R0 = [wP', wU, wD']) := by
  have hcI := hI
  refine q_ct (cc := cX7_work) (maxL := 3) (ret := (some .int)) (own := RX7) (by decide) rfl hZ (Nat.le_of_ble_eq_true rfl) rfl ?_
  intro p9 e9 R s9 m9 args below meth c9 A Q C B
  have hts := C.2.2.2.2.1
  have hinX7 : ∀ w ∈ u_ws RX7 TX7 16, w ∈ wsX7_work := by decide +kernel
  have f28 := hts (.fieldLink RX7 28 "SortCasesModel" "thrown" "I") (by decide +kernel)
  refine q_eqL (L' := [(0, .ref h0)]) rfl ?_
  refine q_aload_n C dX7_work_0 1 0 rfl rfl ?_
  refine q_iconst (v := nI 0) C dX7_work_1 2 rfl (by decide) ?_
  obtain rfl := hP
  have hPo1 : k_isP cI h0 aS aZ aV aN aU aD fd hh [(h0, .inr (6, [.int (fd 0), .ref aS, .ref aZ, .ref aV, .int (fd 4), .ref aN, .int (fd 6), .ref aU, .int (fd 8), .int (fd 9), .int (fd 10), .ref aD, .int (fd 12), .int (fd 13), .int (fd 14), .long hh]))] := rfl
  refine q_put (k := 0) (j := 0) (f := 0) C hinX7 tyX7 tyX7_ok nmX7 f28 (fun _ h => h) (by decide) rfl rfl (tyX7_ok 0 (by decide)) rfl rfl dX7_work_2 5 rfl rfl rfl (Nat.le_of_ble_eq_true rfl) [[(h0, .inr (6, [.int (nI 0), .ref aS, .ref aZ, .ref aV, .int (fd 4), .ref aN, .int (fd 6), .ref aU, .int (fd 8), .int (fd 9), .int (fd 10), .ref aD, .int (fd 12), .int (fd 13), .int (fd 14), .long hh]))], wU, wD] rfl ?_
  have hPp2 : k_isP cI h0 aS aZ aV aN aU aD (upd fd 0 (nI 0)) hh [(h0, .inr (6, [.int (nI 0), .ref aS, .ref aZ, .ref aV, .int (fd 4), .ref aN, .int (fd 6), .ref aU, .int (fd 8), .int (fd 9), .int (fd 10), .ref aD, .int (fd 12), .int (fd 13), .int (fd 14), .long hh]))] := rfl
  refine q_aload_n C dX7_work_5 6 0 rfl rfl ?_
  refine q_callV (k := 0) (ci := 6) (n := 0) (rest := []) (Rr := []) C rfl (k_isP_recv hPp2) rfl (c_X7_reads l hZ hI h0 aS aZ aV aN aU aD (upd fd 0 (nI 0)) hh ([(h0, .inr (6, [.int (nI 0), .ref aS, .ref aZ, .ref aV, .int (fd 4), .ref aN, .int (fd 6), .ref aU, .int (fd 8), .int (fd 9), .int (fd 10), .ref aD, .int (fd 12), .int (fd 13), .int (fd 14), .long hh]))]) hPp2 tx wU hU dx ps wD hD (by first | exact q8 | rfl)) gX7_work_X7_reads rfl rfl rfl (by decide +kernel) B.1 ⟨Nat.le_of_ble_eq_true rfl, Nat.le_of_ble_eq_true rfl⟩ rfl rfl (Nat.le_of_ble_eq_true rfl) dX7_work_6 ⟨Nat.le_of_ble_eq_true rfl, Nat.le_of_ble_eq_true rfl⟩ [0, 1, 2] [] (by decide : ([0, 1, 2] ++ ([] : List Nat)).Perm (List.range 3)) rfl rfl 9 rfl (fun v0 R0 t0 ht0 hp0 => ?_)
  obtain ⟨rfl, wP_6, hwP_6, wD_6, hwD_6, rfl⟩ := hp0
  refine q_eqs (st' := [.int (q_b ((k_rd tx).2))]) rfl ?_
  refine q_eqR (Rs' := [wP_6, wU, wD_6]) rfl ?_
  refine q_if_ne (P := (k_rd tx).2 = false) C dX7_work_9 12 18 rfl (by decide) q_b0 (fun h9 => False.elim (by first | omega | simp_all)) (fun h9 => ?_)
  refine q_aload_n C dX7_work_12 13 0 rfl rfl ?_
  refine q_iconst (v := nI 1) C dX7_work_13 14 rfl (by decide) ?_
  refine q_callV (k := 0) (ci := 6) (n := 1) (rest := []) (Rr := [wU, wD_6]) C rfl (k_isP_recv hwP_6) rfl (c_X7_fails l hZ hI h0 aS aZ aV aN aU aD (upd (upd (upd (upd fd 0 (nI 0)) 10 (q_b (k_rd tx).2)) 9 (nI (k_rd tx).1)) 12 (nI (k_rp tx).length)) hh wP_6 hwP_6 (nI 1)) gX7_work_X7_fails rfl rfl rfl (by decide +kernel) B.1 ⟨Nat.le_of_ble_eq_true rfl, Nat.le_of_ble_eq_true rfl⟩ rfl rfl (Nat.le_of_ble_eq_true rfl) dX7_work_14 ⟨Nat.le_of_ble_eq_true rfl, Nat.le_of_ble_eq_true rfl⟩ [0] [1, 2] (by decide : ([0] ++ ([1, 2] : List Nat)).Perm (List.range 3)) rfl rfl 17 rfl (fun v0 R0 t0 ht0 hp0 => ?_)
  obtain ⟨rfl, w_14, hw_14, rfl⟩ := hp0
  refine q_eqs (st' := [.int (nI 0)]) rfl ?_
  refine q_eqR (Rs' := [w_14, wU, wD_6]) rfl ?_
  exact q_iret C B dX7_work_17 rfl rfl (fun t0 ht0 => ⟨rfl, _, hw_14, _, hwD_6, by first | rfl | simp⟩)

set_option maxHeartbeats 400000 in
set_option maxRecDepth 100000 in
theorem c_X7_work_b (l : Launch) {D : va_G} {tys : List (ClassId × FieldType)} {Z : (Nat → Prop) → State → Heap → Prop} (hZ : q_St Z) {cI : ClassId} (hI : tys[0]? = some (cI, .int)) (h0 : Nat) (aS : Nat) (aZ : Nat) (aV : Nat) (aN : Nat) (aU : Nat) (aD : Nat) (fd : Nat → Int32) (hh : Int64) (wP : va_W) (hP : k_isP cI h0 aS aZ aV aN aU aD fd hh wP) (bx : k_Bx) (at0 : Nat) (ln : List (Nat × Nat)) (sc : Nat → Int32) (wQ : va_W) (hQ : k_isQ cI aS bx at0 ln sc wQ) (sv : List k_S) (wV : va_W) (hV : k_isV cI aV sv wV) (tx : List Nat) (wU : va_W) (hU : k_isU cI aU tx wU) (dx : List Nat) (ps : List Nat) (wD : va_W) (hD : k_isD cI aD dx ps wD) (q8 : fd 8 = nI tx.length) (h4 : fd 4 = nI sv.length) (hgood : (k_rd tx).2 = true) (hsw : k_Sw (bx, at0, ln, sc)) : q_Ct l D tys Z yX7_work wsX7_work ({ frames := 9, cells := 0, slots := 0, locals := 282 } : Room) 0 0 [.ref h0] [wP, wQ, wV, wU, wD] (fun v0 R0 _ => v0 = some (.int (nI (k_dn tx (k_rp tx) (bx, at0, ln, sc)))) ∧ ∃ wP', k_isP cI h0 aS aZ aV aN aU aD (upd (upd (upd (upd (upd (upd fd 0 (nI 0)) 10 (q_b (k_rd tx).2)) 9 (nI (k_rd tx).1)) 12 (nI (k_rp tx).length)) 4 (nI (k_sav sv (bx, at0, ln, sc)).length)) 8 (nI 0)) hh wP' ∧ ∃ wQ', k_isQ cI aS ((k_wks tx (bx, at0, ln, sc)).1) ((k_wks tx (bx, at0, ln, sc)).2.1) ((k_wks tx (bx, at0, ln, sc)).2.2.1) ((k_wks tx (bx, at0, ln, sc)).2.2.2) wQ' ∧ ∃ wV', k_isV cI aV (k_sav sv (bx, at0, ln, sc)) wV' ∧ ∃ wU', k_isU cI aU (([] : List Nat)) wU' ∧ ∃ wD', k_isD cI aD tx (k_rp tx) wD' ∧ R0 = [wP', wQ', wV', wU', wD']) := by
  have hcI := hI
  refine q_ct (cc := cX7_work) (maxL := 3) (ret := (some .int)) (own := RX7) (by decide) rfl hZ (Nat.le_of_ble_eq_true rfl) rfl ?_
  intro p9 e9 R s9 m9 args below meth c9 A Q C B
  have hts := C.2.2.2.2.1
  have hinX7 : ∀ w ∈ u_ws RX7 TX7 16, w ∈ wsX7_work := by decide +kernel
  have f28 := hts (.fieldLink RX7 28 "SortCasesModel" "thrown" "I") (by decide +kernel)
  have f153 := hts (.fieldLink RX7 153 "SortCasesModel" "readMany" "I") (by decide +kernel)
  have f7 := hts (.fieldLink RX7 7 "SortCasesModel" "s" "[I") (by decide +kernel)
  have f129 := hts (.fieldLink RX7 129 "SortCasesModel" "length" "I") (by decide +kernel)
  refine q_eqL (L' := [(0, .ref h0)]) rfl ?_
  have htl := hU.1.1
  have hrl := k_rp_len tx
  refine q_aload_n C dX7_work_0 1 0 rfl rfl ?_
  refine q_iconst (v := nI 0) C dX7_work_1 2 rfl (by decide) ?_
  obtain rfl := hP
  have hPo1 : k_isP cI h0 aS aZ aV aN aU aD fd hh [(h0, .inr (6, [.int (fd 0), .ref aS, .ref aZ, .ref aV, .int (fd 4), .ref aN, .int (fd 6), .ref aU, .int (fd 8), .int (fd 9), .int (fd 10), .ref aD, .int (fd 12), .int (fd 13), .int (fd 14), .long hh]))] := rfl
  refine q_put (k := 0) (j := 0) (f := 0) C hinX7 tyX7 tyX7_ok nmX7 f28 (fun _ h => h) (by decide) rfl rfl (tyX7_ok 0 (by decide)) rfl rfl dX7_work_2 5 rfl rfl rfl (Nat.le_of_ble_eq_true rfl) [[(h0, .inr (6, [.int (nI 0), .ref aS, .ref aZ, .ref aV, .int (fd 4), .ref aN, .int (fd 6), .ref aU, .int (fd 8), .int (fd 9), .int (fd 10), .ref aD, .int (fd 12), .int (fd 13), .int (fd 14), .long hh]))], wQ, wV, wU, wD] rfl ?_
  have hPp2 : k_isP cI h0 aS aZ aV aN aU aD (upd fd 0 (nI 0)) hh [(h0, .inr (6, [.int (nI 0), .ref aS, .ref aZ, .ref aV, .int (fd 4), .ref aN, .int (fd 6), .ref aU, .int (fd 8), .int (fd 9), .int (fd 10), .ref aD, .int (fd 12), .int (fd 13), .int (fd 14), .long hh]))] := rfl
  refine q_aload_n C dX7_work_5 6 0 rfl rfl ?_
  refine q_callV (k := 0) (ci := 6) (n := 0) (rest := []) (Rr := [wQ, wV]) C rfl (k_isP_recv hPp2) rfl (c_X7_reads l hZ hI h0 aS aZ aV aN aU aD (upd fd 0 (nI 0)) hh ([(h0, .inr (6, [.int (nI 0), .ref aS, .ref aZ, .ref aV, .int (fd 4), .ref aN, .int (fd 6), .ref aU, .int (fd 8), .int (fd 9), .int (fd 10), .ref aD, .int (fd 12), .int (fd 13), .int (fd 14), .long hh]))]) hPp2 tx wU hU dx ps wD hD (by first | exact q8 | rfl)) gX7_work_X7_reads rfl rfl rfl (by decide +kernel) B.1 ⟨Nat.le_of_ble_eq_true rfl, Nat.le_of_ble_eq_true rfl⟩ rfl rfl (Nat.le_of_ble_eq_true rfl) dX7_work_6 ⟨Nat.le_of_ble_eq_true rfl, Nat.le_of_ble_eq_true rfl⟩ [0, 3, 4] [1, 2] (by decide : ([0, 3, 4] ++ ([1, 2] : List Nat)).Perm (List.range 5)) rfl rfl 9 rfl (fun v0 R0 t0 ht0 hp0 => ?_)
  obtain ⟨rfl, wP_6, hwP_6, wD_6, hwD_6, rfl⟩ := hp0
  refine q_eqs (st' := [.int (q_b ((k_rd tx).2))]) rfl ?_
  refine q_reord [0, 3, 4, 1, 2] (by decide : ([0, 3, 4, 1, 2] : List Nat).Perm (List.range 5)) (Rs' := [wP_6, wQ, wV, wU, wD_6]) rfl rfl ?_
  refine q_if_ne (P := (k_rd tx).2 = false) C dX7_work_9 12 18 rfl (by decide) q_b0 (fun h9 => ?_) (fun h9 => False.elim (by first | omega | simp_all))
  refine q_aload_n C dX7_work_18 19 0 rfl rfl ?_
  refine q_callV (k := 0) (ci := 6) (n := 0) (rest := []) (Rr := [wU, wD_6]) C rfl (k_isP_recv hwP_6) rfl (c_X7_saves l hZ hI h0 aS aZ aV aN aU aD (upd (upd (upd (upd fd 0 (nI 0)) 10 (q_b (k_rd tx).2)) 9 (nI (k_rd tx).1)) 12 (nI (k_rp tx).length)) hh wP_6 hwP_6 bx at0 ln sc wQ hQ sv wV hV h4) gX7_work_X7_saves rfl rfl rfl (by decide +kernel) B.1 ⟨Nat.le_of_ble_eq_true rfl, Nat.le_of_ble_eq_true rfl⟩ rfl rfl (Nat.le_of_ble_eq_true rfl) dX7_work_19 ⟨Nat.le_of_ble_eq_true rfl, Nat.le_of_ble_eq_true rfl⟩ [0, 1, 2] [3, 4] (by decide : ([0, 1, 2] ++ ([3, 4] : List Nat)).Perm (List.range 5)) rfl rfl 22 rfl (fun v0 R0 t0 ht0 hp0 => ?_)
  obtain ⟨rfl, wP_19, hwP_19, wV_19, hwV_19, rfl⟩ := hp0
  refine q_eqs (st' := []) rfl ?_
  refine q_eqR (Rs' := [wP_19, wQ, wV_19, wU, wD_6]) rfl ?_
  refine q_iconst (v := nI 0) C dX7_work_22 23 rfl (by decide) ?_
  refine q_istore_n C dX7_work_23 24 rfl [(1, .int (nI 0)), (0, .ref h0)] (by decide) rfl ?_
  refine q_iconst (v := nI 0) C dX7_work_24 25 rfl (by decide) ?_
  refine q_istore_n C dX7_work_25 26 rfl [(2, .int (nI 0)), (1, .int (nI 0)), (0, .ref h0)] (by decide) rfl ?_
  have lp : ∀ (kk : Nat) (j : Nat) (wb : va_W), (k_rp tx).length - j < kk → ∀ (hj : j ≤ (k_rp tx).length), ∀ (hu : ∀ u, u < j → k_dy tx (k_rp tx) (bx, at0, ln, sc) u = 0), ∀ (hwb : k_isQ cI aS ((k_di tx (k_rp tx) (bx, at0, ln, sc) j).1) ((k_di tx (k_rp tx) (bx, at0, ln, sc) j).2.1) ((k_di tx (k_rp tx) (bx, at0, ln, sc) j).2.2.1) ((k_di tx (k_rp tx) (bx, at0, ln, sc) j).2.2.2) wb), q_V p9 l e9 R s9 m9 args below meth c9 D A 3 Q 0 0 26 [(1, .int (nI j)), (2, .int (nI 0)), (0, .ref h0)] [] [wP_19, wb, wV_19, wU, wD_6] := by
    intro kk
    induction kk with
    | zero => intro j wb hkk; exact absurd hkk (Nat.not_lt_zero _)
    | succ kk ih_lp =>
      intro j wb hkk hj hu hwb
      have hSj := k_Sw_di hsw j hj
      refine q_iload_n C dX7_work_26 27 0 rfl rfl ?_
      refine q_aload_n C dX7_work_27 28 2 rfl rfl ?_
      obtain rfl := hwP_19
      have hPo3 : k_isP cI h0 aS aZ aV aN aU aD (upd (upd (upd (upd (upd fd 0 (nI 0)) 10 (q_b (k_rd tx).2)) 9 (nI (k_rd tx).1)) 12 (nI (k_rp tx).length)) 4 (nI (k_sav sv (bx, at0, ln, sc)).length)) hh [(h0, .inr (6, [.int (nI 0), .ref aS, .ref aZ, .ref aV, .int (nI (((k_sav sv (bx, at0, ln, sc)).length))), .ref aN, .int (fd 6), .ref aU, .int (fd 8), .int (nI (((k_rd tx).1))), .int (q_b ((k_rd tx).2)), .ref aD, .int (nI (((k_rp tx).length))), .int (fd 13), .int (fd 14), .long hh]))] := rfl
      refine q_get (k := 0) (j := 0) (f := 12) C hinX7 f153 (fun _ h => h) (by decide) rfl dX7_work_28 31 rfl rfl rfl rfl ?_
      refine q_icmp_ge C dX7_work_31 34 61 rfl (by decide) (nI_leI (by omega) (by omega)) (fun h31 => ?_) (fun h31 => ?_)
      · refine q_aload_n C dX7_work_61 62 2 rfl rfl ?_
        refine q_get (k := 0) (j := 0) (f := 1) C hinX7 f7 (fun _ h => h) (by decide) rfl dX7_work_62 65 rfl rfl rfl rfl ?_
        refine q_bipush (v := nI 10) C dX7_work_65 67 rfl (by decide) ?_
        refine q_iload_n C dX7_work_67 68 1 rfl rfl ?_
        refine q_if_ne C dX7_work_68 71 75 rfl (by decide) (q_eq0 (by omega)) (fun h68 => False.elim (by first | omega | simp_all)) (fun h68 => ?_)
        refine q_iconst (v := -1) C dX7_work_71 72 rfl (by decide) ?_
        refine q_goto C dX7_work_72 76 (by decide) ?_
        obtain ⟨hat4, hok4, hlok4, f4, hm4, rfl⟩ := hwb
        have hll4 := hlok4.1
        have hQo4 : k_isQ cI aS ((k_di tx (k_rp tx) (bx, at0, ln, sc) j).1) ((k_di tx (k_rp tx) (bx, at0, ln, sc) j).2.1) ((k_di tx (k_rp tx) (bx, at0, ln, sc) j).2.2.1) ((k_di tx (k_rp tx) (bx, at0, ln, sc) j).2.2.2) [(aS, .inl (cI, 350, .inl f4))] := ⟨hat4, hok4, hlok4, f4, hm4, rfl⟩
        refine q_iast (k := 1) (j := 0) C dX7_work_76 77 rfl rfl rfl hcI 10 rfl (by omega) (by decide) [[(h0, .inr (6, [.int (nI 0), .ref aS, .ref aZ, .ref aV, .int (nI (((k_sav sv (bx, at0, ln, sc)).length))), .ref aN, .int (fd 6), .ref aU, .int (fd 8), .int (nI (((k_rd tx).1))), .int (q_b ((k_rd tx).2)), .ref aD, .int (nI (((k_rp tx).length))), .int (fd 13), .int (fd 14), .long hh]))], [(aS, .inl (cI, 350, .inl (upd f4 10 (-1))))], wV_19, wU, wD_6] rfl ?_
        have hmf5 : k_MR (upd f4 10 (-1)) ((k_di tx (k_rp tx) (bx, at0, ln, sc) j).1) ((k_di tx (k_rp tx) (bx, at0, ln, sc) j).2.1) ((k_di tx (k_rp tx) (bx, at0, ln, sc) j).2.2.1) (upd ((k_di tx (k_rp tx) (bx, at0, ln, sc) j).2.2.2) 10 (-1)) := k_MR_sc hm4 (by decide) (by decide)
        have haf5 : ((k_di tx (k_rp tx) (bx, at0, ln, sc) j).2.1) < 12 := hat4
        have hQf5 : k_isQ cI aS ((k_di tx (k_rp tx) (bx, at0, ln, sc) j).1) ((k_di tx (k_rp tx) (bx, at0, ln, sc) j).2.1) ((k_di tx (k_rp tx) (bx, at0, ln, sc) j).2.2.1) (upd ((k_di tx (k_rp tx) (bx, at0, ln, sc) j).2.2.2) 10 (-1)) [(aS, .inl (cI, 350, .inl (upd f4 10 (-1))))] := ⟨haf5, hok4, hlok4, _, hmf5, rfl⟩
        refine q_aload_n C dX7_work_77 78 2 rfl rfl ?_
        refine q_get (k := 0) (j := 0) (f := 1) C hinX7 f7 (fun _ h => h) (by decide) rfl dX7_work_78 81 rfl rfl rfl rfl ?_
        refine q_bipush (v := nI 11) C dX7_work_81 83 rfl (by decide) ?_
        refine q_iload_n C dX7_work_83 84 1 rfl rfl ?_
        refine q_if_ne C dX7_work_84 87 91 rfl (by decide) (q_eq0 (by omega)) (fun h84 => False.elim (by first | omega | simp_all)) (fun h84 => ?_)
        refine q_iconst (v := -1) C dX7_work_87 88 rfl (by decide) ?_
        refine q_goto C dX7_work_88 92 (by decide) ?_
        refine q_iast (k := 1) (j := 0) C dX7_work_92 93 rfl rfl rfl hcI 11 rfl (by omega) (by decide) [[(h0, .inr (6, [.int (nI 0), .ref aS, .ref aZ, .ref aV, .int (nI (((k_sav sv (bx, at0, ln, sc)).length))), .ref aN, .int (fd 6), .ref aU, .int (fd 8), .int (nI (((k_rd tx).1))), .int (q_b ((k_rd tx).2)), .ref aD, .int (nI (((k_rp tx).length))), .int (fd 13), .int (fd 14), .long hh]))], [(aS, .inl (cI, 350, .inl (upd (upd f4 10 (-1)) 11 (-1))))], wV_19, wU, wD_6] rfl ?_
        have hmf6 : k_MR (upd (upd f4 10 (-1)) 11 (-1)) ((k_di tx (k_rp tx) (bx, at0, ln, sc) j).1) ((k_di tx (k_rp tx) (bx, at0, ln, sc) j).2.1) ((k_di tx (k_rp tx) (bx, at0, ln, sc) j).2.2.1) (upd (upd ((k_di tx (k_rp tx) (bx, at0, ln, sc) j).2.2.2) 10 (-1)) 11 (-1)) := k_MR_sc hmf5 (by decide) (by decide)
        have haf6 : ((k_di tx (k_rp tx) (bx, at0, ln, sc) j).2.1) < 12 := haf5
        have hQf6 : k_isQ cI aS ((k_di tx (k_rp tx) (bx, at0, ln, sc) j).1) ((k_di tx (k_rp tx) (bx, at0, ln, sc) j).2.1) ((k_di tx (k_rp tx) (bx, at0, ln, sc) j).2.2.1) (upd (upd ((k_di tx (k_rp tx) (bx, at0, ln, sc) j).2.2.2) 10 (-1)) 11 (-1)) [(aS, .inl (cI, 350, .inl (upd (upd f4 10 (-1)) 11 (-1))))] := ⟨haf6, hok4, hlok4, _, hmf6, rfl⟩
        refine q_aload_n C dX7_work_93 94 2 rfl rfl ?_
        refine q_iconst (v := nI 0) C dX7_work_94 95 rfl (by decide) ?_
        refine q_put (k := 0) (j := 0) (f := 8) C hinX7 tyX7 tyX7_ok nmX7 f129 (fun _ h => h) (by decide) rfl rfl (tyX7_ok 8 (by decide)) rfl rfl dX7_work_95 98 rfl rfl rfl (Nat.le_of_ble_eq_true rfl) [[(h0, .inr (6, [.int (nI 0), .ref aS, .ref aZ, .ref aV, .int (nI (((k_sav sv (bx, at0, ln, sc)).length))), .ref aN, .int (fd 6), .ref aU, .int (nI 0), .int (nI (((k_rd tx).1))), .int (q_b ((k_rd tx).2)), .ref aD, .int (nI (((k_rp tx).length))), .int (fd 13), .int (fd 14), .long hh]))], [(aS, .inl (cI, 350, .inl (upd (upd f4 10 (-1)) 11 (-1))))], wV_19, wU, wD_6] rfl ?_
        have hPp7 : k_isP cI h0 aS aZ aV aN aU aD (upd (upd (upd (upd (upd (upd fd 0 (nI 0)) 10 (q_b (k_rd tx).2)) 9 (nI (k_rd tx).1)) 12 (nI (k_rp tx).length)) 4 (nI (k_sav sv (bx, at0, ln, sc)).length)) 8 (nI 0)) hh [(h0, .inr (6, [.int (nI 0), .ref aS, .ref aZ, .ref aV, .int (nI (((k_sav sv (bx, at0, ln, sc)).length))), .ref aN, .int (fd 6), .ref aU, .int (nI 0), .int (nI (((k_rd tx).1))), .int (q_b ((k_rd tx).2)), .ref aD, .int (nI (((k_rp tx).length))), .int (fd 13), .int (fd 14), .long hh]))] := rfl
        refine q_iload_n C dX7_work_98 99 0 rfl rfl ?_
        obtain ⟨htk8, fu8, htr8, rfl⟩ := hU
        have htl8 := htk8.1
        have hUo8 : k_isU cI aU tx [(aU, .inl (cI, 60, .inl fu8))] := ⟨htk8, fu8, htr8, rfl⟩
        obtain rfl : j = (k_rp tx).length := by omega
        obtain ⟨hdn, hwk⟩ := k_wks_A (tx := tx) (S := (bx, at0, ln, sc)) hu
        exact q_iret C B dX7_work_99 rfl rfl (fun t0 ht0 => ⟨by rw [hdn], _, hPp7, _, by rw [hwk]; exact hQf6, _, hwV_19, _, ⟨k_Tok_nil, _, fun i hi => absurd hi (Nat.not_lt_zero i), rfl⟩, _, hwD_6, by first | rfl | simp⟩)
      · refine q_iload_n C dX7_work_34 35 1 rfl rfl ?_
        refine q_if_ne C dX7_work_35 38 61 rfl (by decide) (q_eq0 (by omega)) (fun h35 => False.elim (by first | omega | simp_all)) (fun h35 => ?_)
        refine q_aload_n C dX7_work_38 39 2 rfl rfl ?_
        refine q_iconst (v := nI 3) C dX7_work_39 40 rfl (by decide) ?_
        refine q_iload_n C dX7_work_40 41 0 rfl rfl ?_
        refine q_imul (v := nI (3 * j)) C dX7_work_41 42 rfl (q_nmul (by omega)) ?_
        refine q_callV (k := 0) (ci := 6) (n := 1) (rest := []) (Rr := [wV_19]) C rfl (k_isP_recv hPo3) rfl (c_X7_does l hZ hI h0 aS aZ aV aN aU aD (upd (upd (upd (upd (upd fd 0 (nI 0)) 10 (q_b (k_rd tx).2)) 9 (nI (k_rd tx).1)) 12 (nI (k_rp tx).length)) 4 (nI (k_sav sv (bx, at0, ln, sc)).length)) hh ([(h0, .inr (6, [.int (nI 0), .ref aS, .ref aZ, .ref aV, .int (nI (((k_sav sv (bx, at0, ln, sc)).length))), .ref aN, .int (fd 6), .ref aU, .int (fd 8), .int (nI (((k_rd tx).1))), .int (q_b ((k_rd tx).2)), .ref aD, .int (nI (((k_rp tx).length))), .int (fd 13), .int (fd 14), .long hh]))]) hPo3 ((k_di tx (k_rp tx) (bx, at0, ln, sc) j).1) ((k_di tx (k_rp tx) (bx, at0, ln, sc) j).2.1) ((k_di tx (k_rp tx) (bx, at0, ln, sc) j).2.2.1) ((k_di tx (k_rp tx) (bx, at0, ln, sc) j).2.2.2) wb hwb tx wU hU tx (k_rp tx) wD_6 hwD_6 (3 * j) j hSj rfl rfl (by omega) (by omega) (k_rp_ok (by omega)) (k_rp_le (by omega))) gX7_work_X7_does rfl rfl rfl (by decide +kernel) B.1 ⟨Nat.le_of_ble_eq_true rfl, Nat.le_of_ble_eq_true rfl⟩ rfl rfl (Nat.le_of_ble_eq_true rfl) dX7_work_42 ⟨Nat.le_of_ble_eq_true rfl, Nat.le_of_ble_eq_true rfl⟩ [0, 1, 3, 4] [2] (by decide : ([0, 1, 3, 4] ++ ([2] : List Nat)).Perm (List.range 5)) rfl rfl 45 rfl (fun v0 R0 t0 ht0 hp0 => ?_)
        obtain ⟨rfl, wQ_42, hwQ_42, rfl⟩ := hp0
        refine q_eqs (st' := [.int (nI ((k_dpt tx (((k_di tx (k_rp tx) (bx, at0, ln, sc) j).1), ((k_di tx (k_rp tx) (bx, at0, ln, sc) j).2.1), ((k_di tx (k_rp tx) (bx, at0, ln, sc) j).2.2.1), ((k_di tx (k_rp tx) (bx, at0, ln, sc) j).2.2.2)) (k_at (k_rp tx) j)).2))]) rfl ?_
        refine q_reord [0, 1, 4, 2, 3] (by decide : ([0, 1, 4, 2, 3] : List Nat).Perm (List.range 5)) (Rs' := [[(h0, .inr (6, [.int (nI 0), .ref aS, .ref aZ, .ref aV, .int (nI (((k_sav sv (bx, at0, ln, sc)).length))), .ref aN, .int (fd 6), .ref aU, .int (fd 8), .int (nI (((k_rd tx).1))), .int (q_b ((k_rd tx).2)), .ref aD, .int (nI (((k_rp tx).length))), .int (fd 13), .int (fd 14), .long hh]))], wQ_42, wV_19, wU, wD_6]) rfl rfl ?_
        have hw42 : (k_dpt tx (((k_di tx (k_rp tx) (bx, at0, ln, sc) j).1), ((k_di tx (k_rp tx) (bx, at0, ln, sc) j).2.1), ((k_di tx (k_rp tx) (bx, at0, ln, sc) j).2.2.1), ((k_di tx (k_rp tx) (bx, at0, ln, sc) j).2.2.2)) (k_at (k_rp tx) j)).2 ≤ 7 := k_dy_le
        refine q_istore_n C dX7_work_45 46 rfl [(2, .int (nI ((k_dpt tx (((k_di tx (k_rp tx) (bx, at0, ln, sc) j).1), ((k_di tx (k_rp tx) (bx, at0, ln, sc) j).2.1), ((k_di tx (k_rp tx) (bx, at0, ln, sc) j).2.2.1), ((k_di tx (k_rp tx) (bx, at0, ln, sc) j).2.2.2)) (k_at (k_rp tx) j)).2))), (1, .int (nI j)), (0, .ref h0)] (by decide) rfl ?_
        refine q_iload_n C dX7_work_46 47 1 rfl rfl ?_
        refine q_iload_n C dX7_work_47 48 0 rfl rfl ?_
        refine q_if_ne C dX7_work_48 51 55 rfl (by decide) (q_eq0 (by omega)) (fun h48 => ?_) (fun h48 => ?_)
        · have hdy : ¬ k_dy tx (k_rp tx) (bx, at0, ln, sc) j = 0 := h48
          refine q_iconst (v := nI 0) C dX7_work_55 56 rfl (by decide) ?_
          refine q_iadd (v := nI j) C dX7_work_56 57 rfl (q_nadd (by omega)) ?_
          refine q_istore_n C dX7_work_57 58 rfl [(1, .int (nI j)), (2, .int (nI ((k_dpt tx (((k_di tx (k_rp tx) (bx, at0, ln, sc) j).1), ((k_di tx (k_rp tx) (bx, at0, ln, sc) j).2.1), ((k_di tx (k_rp tx) (bx, at0, ln, sc) j).2.2.1), ((k_di tx (k_rp tx) (bx, at0, ln, sc) j).2.2.2)) (k_at (k_rp tx) j)).2))), (0, .ref h0)] (by decide) rfl ?_
          refine q_goto C dX7_work_58 26 (by decide) ?_
          refine q_iload_n C dX7_work_26 27 0 rfl rfl ?_
          refine q_aload_n C dX7_work_27 28 2 rfl rfl ?_
          refine q_get (k := 0) (j := 0) (f := 12) C hinX7 f153 (fun _ h => h) (by decide) rfl dX7_work_28 31 rfl rfl rfl rfl ?_
          refine q_icmp_ge C dX7_work_31 34 61 rfl (by decide) (nI_leI (by omega) (by omega)) (fun h31 => False.elim (by first | omega | simp_all)) (fun h31 => ?_)
          refine q_iload_n C dX7_work_34 35 1 rfl rfl ?_
          refine q_if_ne C dX7_work_35 38 61 rfl (by decide) (q_eq0 (by omega)) (fun h35 => ?_) (fun h35 => False.elim (by first | omega | simp_all))
          refine q_aload_n C dX7_work_61 62 2 rfl rfl ?_
          refine q_get (k := 0) (j := 0) (f := 1) C hinX7 f7 (fun _ h => h) (by decide) rfl dX7_work_62 65 rfl rfl rfl rfl ?_
          refine q_bipush (v := nI 10) C dX7_work_65 67 rfl (by decide) ?_
          refine q_iload_n C dX7_work_67 68 1 rfl rfl ?_
          refine q_if_ne C dX7_work_68 71 75 rfl (by decide) (q_eq0 (by omega)) (fun h68 => ?_) (fun h68 => False.elim (by first | omega | simp_all))
          refine q_iload_n C dX7_work_75 76 0 rfl rfl ?_
          obtain ⟨hat9, hok9, hlok9, f9, hm9, rfl⟩ := hwQ_42
          have hll9 := hlok9.1
          have hQo9 : k_isQ cI aS ((k_dpt tx (((k_di tx (k_rp tx) (bx, at0, ln, sc) j).1), ((k_di tx (k_rp tx) (bx, at0, ln, sc) j).2.1), ((k_di tx (k_rp tx) (bx, at0, ln, sc) j).2.2.1), ((k_di tx (k_rp tx) (bx, at0, ln, sc) j).2.2.2)) (k_at (k_rp tx) j)).1.1) ((k_dpt tx (((k_di tx (k_rp tx) (bx, at0, ln, sc) j).1), ((k_di tx (k_rp tx) (bx, at0, ln, sc) j).2.1), ((k_di tx (k_rp tx) (bx, at0, ln, sc) j).2.2.1), ((k_di tx (k_rp tx) (bx, at0, ln, sc) j).2.2.2)) (k_at (k_rp tx) j)).1.2.1) ((k_dpt tx (((k_di tx (k_rp tx) (bx, at0, ln, sc) j).1), ((k_di tx (k_rp tx) (bx, at0, ln, sc) j).2.1), ((k_di tx (k_rp tx) (bx, at0, ln, sc) j).2.2.1), ((k_di tx (k_rp tx) (bx, at0, ln, sc) j).2.2.2)) (k_at (k_rp tx) j)).1.2.2.1) ((k_dpt tx (((k_di tx (k_rp tx) (bx, at0, ln, sc) j).1), ((k_di tx (k_rp tx) (bx, at0, ln, sc) j).2.1), ((k_di tx (k_rp tx) (bx, at0, ln, sc) j).2.2.1), ((k_di tx (k_rp tx) (bx, at0, ln, sc) j).2.2.2)) (k_at (k_rp tx) j)).1.2.2.2) [(aS, .inl (cI, 350, .inl f9))] := ⟨hat9, hok9, hlok9, f9, hm9, rfl⟩
          refine q_iast (k := 1) (j := 0) C dX7_work_76 77 rfl rfl rfl hcI 10 rfl (by omega) (by decide) [[(h0, .inr (6, [.int (nI 0), .ref aS, .ref aZ, .ref aV, .int (nI (((k_sav sv (bx, at0, ln, sc)).length))), .ref aN, .int (fd 6), .ref aU, .int (fd 8), .int (nI (((k_rd tx).1))), .int (q_b ((k_rd tx).2)), .ref aD, .int (nI (((k_rp tx).length))), .int (fd 13), .int (fd 14), .long hh]))], [(aS, .inl (cI, 350, .inl (upd f9 10 (nI j))))], wV_19, wU, wD_6] rfl ?_
          have hmf10 : k_MR (upd f9 10 (nI j)) ((k_dpt tx (((k_di tx (k_rp tx) (bx, at0, ln, sc) j).1), ((k_di tx (k_rp tx) (bx, at0, ln, sc) j).2.1), ((k_di tx (k_rp tx) (bx, at0, ln, sc) j).2.2.1), ((k_di tx (k_rp tx) (bx, at0, ln, sc) j).2.2.2)) (k_at (k_rp tx) j)).1.1) ((k_dpt tx (((k_di tx (k_rp tx) (bx, at0, ln, sc) j).1), ((k_di tx (k_rp tx) (bx, at0, ln, sc) j).2.1), ((k_di tx (k_rp tx) (bx, at0, ln, sc) j).2.2.1), ((k_di tx (k_rp tx) (bx, at0, ln, sc) j).2.2.2)) (k_at (k_rp tx) j)).1.2.1) ((k_dpt tx (((k_di tx (k_rp tx) (bx, at0, ln, sc) j).1), ((k_di tx (k_rp tx) (bx, at0, ln, sc) j).2.1), ((k_di tx (k_rp tx) (bx, at0, ln, sc) j).2.2.1), ((k_di tx (k_rp tx) (bx, at0, ln, sc) j).2.2.2)) (k_at (k_rp tx) j)).1.2.2.1) (upd ((k_dpt tx (((k_di tx (k_rp tx) (bx, at0, ln, sc) j).1), ((k_di tx (k_rp tx) (bx, at0, ln, sc) j).2.1), ((k_di tx (k_rp tx) (bx, at0, ln, sc) j).2.2.1), ((k_di tx (k_rp tx) (bx, at0, ln, sc) j).2.2.2)) (k_at (k_rp tx) j)).1.2.2.2) 10 (nI j)) := k_MR_sc hm9 (by decide) (by decide)
          have haf10 : ((k_dpt tx (((k_di tx (k_rp tx) (bx, at0, ln, sc) j).1), ((k_di tx (k_rp tx) (bx, at0, ln, sc) j).2.1), ((k_di tx (k_rp tx) (bx, at0, ln, sc) j).2.2.1), ((k_di tx (k_rp tx) (bx, at0, ln, sc) j).2.2.2)) (k_at (k_rp tx) j)).1.2.1) < 12 := hat9
          have hQf10 : k_isQ cI aS ((k_dpt tx (((k_di tx (k_rp tx) (bx, at0, ln, sc) j).1), ((k_di tx (k_rp tx) (bx, at0, ln, sc) j).2.1), ((k_di tx (k_rp tx) (bx, at0, ln, sc) j).2.2.1), ((k_di tx (k_rp tx) (bx, at0, ln, sc) j).2.2.2)) (k_at (k_rp tx) j)).1.1) ((k_dpt tx (((k_di tx (k_rp tx) (bx, at0, ln, sc) j).1), ((k_di tx (k_rp tx) (bx, at0, ln, sc) j).2.1), ((k_di tx (k_rp tx) (bx, at0, ln, sc) j).2.2.1), ((k_di tx (k_rp tx) (bx, at0, ln, sc) j).2.2.2)) (k_at (k_rp tx) j)).1.2.1) ((k_dpt tx (((k_di tx (k_rp tx) (bx, at0, ln, sc) j).1), ((k_di tx (k_rp tx) (bx, at0, ln, sc) j).2.1), ((k_di tx (k_rp tx) (bx, at0, ln, sc) j).2.2.1), ((k_di tx (k_rp tx) (bx, at0, ln, sc) j).2.2.2)) (k_at (k_rp tx) j)).1.2.2.1) (upd ((k_dpt tx (((k_di tx (k_rp tx) (bx, at0, ln, sc) j).1), ((k_di tx (k_rp tx) (bx, at0, ln, sc) j).2.1), ((k_di tx (k_rp tx) (bx, at0, ln, sc) j).2.2.1), ((k_di tx (k_rp tx) (bx, at0, ln, sc) j).2.2.2)) (k_at (k_rp tx) j)).1.2.2.2) 10 (nI j)) [(aS, .inl (cI, 350, .inl (upd f9 10 (nI j))))] := ⟨haf10, hok9, hlok9, _, hmf10, rfl⟩
          refine q_aload_n C dX7_work_77 78 2 rfl rfl ?_
          refine q_get (k := 0) (j := 0) (f := 1) C hinX7 f7 (fun _ h => h) (by decide) rfl dX7_work_78 81 rfl rfl rfl rfl ?_
          refine q_bipush (v := nI 11) C dX7_work_81 83 rfl (by decide) ?_
          refine q_iload_n C dX7_work_83 84 1 rfl rfl ?_
          refine q_if_ne C dX7_work_84 87 91 rfl (by decide) (q_eq0 (by omega)) (fun h84 => ?_) (fun h84 => False.elim (by first | omega | simp_all))
          refine q_iload_n C dX7_work_91 92 1 rfl rfl ?_
          refine q_iast (k := 1) (j := 0) C dX7_work_92 93 rfl rfl rfl hcI 11 rfl (by omega) (by decide) [[(h0, .inr (6, [.int (nI 0), .ref aS, .ref aZ, .ref aV, .int (nI (((k_sav sv (bx, at0, ln, sc)).length))), .ref aN, .int (fd 6), .ref aU, .int (fd 8), .int (nI (((k_rd tx).1))), .int (q_b ((k_rd tx).2)), .ref aD, .int (nI (((k_rp tx).length))), .int (fd 13), .int (fd 14), .long hh]))], [(aS, .inl (cI, 350, .inl (upd (upd f9 10 (nI j)) 11 (nI ((k_dpt tx (((k_di tx (k_rp tx) (bx, at0, ln, sc) j).1), ((k_di tx (k_rp tx) (bx, at0, ln, sc) j).2.1), ((k_di tx (k_rp tx) (bx, at0, ln, sc) j).2.2.1), ((k_di tx (k_rp tx) (bx, at0, ln, sc) j).2.2.2)) (k_at (k_rp tx) j)).2)))))], wV_19, wU, wD_6] rfl ?_
          have hmf11 : k_MR (upd (upd f9 10 (nI j)) 11 (nI ((k_dpt tx (((k_di tx (k_rp tx) (bx, at0, ln, sc) j).1), ((k_di tx (k_rp tx) (bx, at0, ln, sc) j).2.1), ((k_di tx (k_rp tx) (bx, at0, ln, sc) j).2.2.1), ((k_di tx (k_rp tx) (bx, at0, ln, sc) j).2.2.2)) (k_at (k_rp tx) j)).2))) ((k_dpt tx (((k_di tx (k_rp tx) (bx, at0, ln, sc) j).1), ((k_di tx (k_rp tx) (bx, at0, ln, sc) j).2.1), ((k_di tx (k_rp tx) (bx, at0, ln, sc) j).2.2.1), ((k_di tx (k_rp tx) (bx, at0, ln, sc) j).2.2.2)) (k_at (k_rp tx) j)).1.1) ((k_dpt tx (((k_di tx (k_rp tx) (bx, at0, ln, sc) j).1), ((k_di tx (k_rp tx) (bx, at0, ln, sc) j).2.1), ((k_di tx (k_rp tx) (bx, at0, ln, sc) j).2.2.1), ((k_di tx (k_rp tx) (bx, at0, ln, sc) j).2.2.2)) (k_at (k_rp tx) j)).1.2.1) ((k_dpt tx (((k_di tx (k_rp tx) (bx, at0, ln, sc) j).1), ((k_di tx (k_rp tx) (bx, at0, ln, sc) j).2.1), ((k_di tx (k_rp tx) (bx, at0, ln, sc) j).2.2.1), ((k_di tx (k_rp tx) (bx, at0, ln, sc) j).2.2.2)) (k_at (k_rp tx) j)).1.2.2.1) (upd (upd ((k_dpt tx (((k_di tx (k_rp tx) (bx, at0, ln, sc) j).1), ((k_di tx (k_rp tx) (bx, at0, ln, sc) j).2.1), ((k_di tx (k_rp tx) (bx, at0, ln, sc) j).2.2.1), ((k_di tx (k_rp tx) (bx, at0, ln, sc) j).2.2.2)) (k_at (k_rp tx) j)).1.2.2.2) 10 (nI j)) 11 (nI ((k_dpt tx (((k_di tx (k_rp tx) (bx, at0, ln, sc) j).1), ((k_di tx (k_rp tx) (bx, at0, ln, sc) j).2.1), ((k_di tx (k_rp tx) (bx, at0, ln, sc) j).2.2.1), ((k_di tx (k_rp tx) (bx, at0, ln, sc) j).2.2.2)) (k_at (k_rp tx) j)).2))) := k_MR_sc hmf10 (by decide) (by decide)
          have haf11 : ((k_dpt tx (((k_di tx (k_rp tx) (bx, at0, ln, sc) j).1), ((k_di tx (k_rp tx) (bx, at0, ln, sc) j).2.1), ((k_di tx (k_rp tx) (bx, at0, ln, sc) j).2.2.1), ((k_di tx (k_rp tx) (bx, at0, ln, sc) j).2.2.2)) (k_at (k_rp tx) j)).1.2.1) < 12 := haf10
          have hQf11 : k_isQ cI aS ((k_dpt tx (((k_di tx (k_rp tx) (bx, at0, ln, sc) j).1), ((k_di tx (k_rp tx) (bx, at0, ln, sc) j).2.1), ((k_di tx (k_rp tx) (bx, at0, ln, sc) j).2.2.1), ((k_di tx (k_rp tx) (bx, at0, ln, sc) j).2.2.2)) (k_at (k_rp tx) j)).1.1) ((k_dpt tx (((k_di tx (k_rp tx) (bx, at0, ln, sc) j).1), ((k_di tx (k_rp tx) (bx, at0, ln, sc) j).2.1), ((k_di tx (k_rp tx) (bx, at0, ln, sc) j).2.2.1), ((k_di tx (k_rp tx) (bx, at0, ln, sc) j).2.2.2)) (k_at (k_rp tx) j)).1.2.1) ((k_dpt tx (((k_di tx (k_rp tx) (bx, at0, ln, sc) j).1), ((k_di tx (k_rp tx) (bx, at0, ln, sc) j).2.1), ((k_di tx (k_rp tx) (bx, at0, ln, sc) j).2.2.1), ((k_di tx (k_rp tx) (bx, at0, ln, sc) j).2.2.2)) (k_at (k_rp tx) j)).1.2.2.1) (upd (upd ((k_dpt tx (((k_di tx (k_rp tx) (bx, at0, ln, sc) j).1), ((k_di tx (k_rp tx) (bx, at0, ln, sc) j).2.1), ((k_di tx (k_rp tx) (bx, at0, ln, sc) j).2.2.1), ((k_di tx (k_rp tx) (bx, at0, ln, sc) j).2.2.2)) (k_at (k_rp tx) j)).1.2.2.2) 10 (nI j)) 11 (nI ((k_dpt tx (((k_di tx (k_rp tx) (bx, at0, ln, sc) j).1), ((k_di tx (k_rp tx) (bx, at0, ln, sc) j).2.1), ((k_di tx (k_rp tx) (bx, at0, ln, sc) j).2.2.1), ((k_di tx (k_rp tx) (bx, at0, ln, sc) j).2.2.2)) (k_at (k_rp tx) j)).2))) [(aS, .inl (cI, 350, .inl (upd (upd f9 10 (nI j)) 11 (nI ((k_dpt tx (((k_di tx (k_rp tx) (bx, at0, ln, sc) j).1), ((k_di tx (k_rp tx) (bx, at0, ln, sc) j).2.1), ((k_di tx (k_rp tx) (bx, at0, ln, sc) j).2.2.1), ((k_di tx (k_rp tx) (bx, at0, ln, sc) j).2.2.2)) (k_at (k_rp tx) j)).2)))))] := ⟨haf11, hok9, hlok9, _, hmf11, rfl⟩
          refine q_aload_n C dX7_work_93 94 2 rfl rfl ?_
          refine q_iconst (v := nI 0) C dX7_work_94 95 rfl (by decide) ?_
          refine q_put (k := 0) (j := 0) (f := 8) C hinX7 tyX7 tyX7_ok nmX7 f129 (fun _ h => h) (by decide) rfl rfl (tyX7_ok 8 (by decide)) rfl rfl dX7_work_95 98 rfl rfl rfl (Nat.le_of_ble_eq_true rfl) [[(h0, .inr (6, [.int (nI 0), .ref aS, .ref aZ, .ref aV, .int (nI (((k_sav sv (bx, at0, ln, sc)).length))), .ref aN, .int (fd 6), .ref aU, .int (nI 0), .int (nI (((k_rd tx).1))), .int (q_b ((k_rd tx).2)), .ref aD, .int (nI (((k_rp tx).length))), .int (fd 13), .int (fd 14), .long hh]))], [(aS, .inl (cI, 350, .inl (upd (upd f9 10 (nI j)) 11 (nI ((k_dpt tx (((k_di tx (k_rp tx) (bx, at0, ln, sc) j).1), ((k_di tx (k_rp tx) (bx, at0, ln, sc) j).2.1), ((k_di tx (k_rp tx) (bx, at0, ln, sc) j).2.2.1), ((k_di tx (k_rp tx) (bx, at0, ln, sc) j).2.2.2)) (k_at (k_rp tx) j)).2)))))], wV_19, wU, wD_6] rfl ?_
          have hPp12 : k_isP cI h0 aS aZ aV aN aU aD (upd (upd (upd (upd (upd (upd fd 0 (nI 0)) 10 (q_b (k_rd tx).2)) 9 (nI (k_rd tx).1)) 12 (nI (k_rp tx).length)) 4 (nI (k_sav sv (bx, at0, ln, sc)).length)) 8 (nI 0)) hh [(h0, .inr (6, [.int (nI 0), .ref aS, .ref aZ, .ref aV, .int (nI (((k_sav sv (bx, at0, ln, sc)).length))), .ref aN, .int (fd 6), .ref aU, .int (nI 0), .int (nI (((k_rd tx).1))), .int (q_b ((k_rd tx).2)), .ref aD, .int (nI (((k_rp tx).length))), .int (fd 13), .int (fd 14), .long hh]))] := rfl
          refine q_iload_n C dX7_work_98 99 0 rfl rfl ?_
          obtain ⟨htk13, fu13, htr13, rfl⟩ := hU
          have htl13 := htk13.1
          have hUo13 : k_isU cI aU tx [(aU, .inl (cI, 60, .inl fu13))] := ⟨htk13, fu13, htr13, rfl⟩
          obtain ⟨hdn, hwk⟩ := k_wks_B (tx := tx) (S := (bx, at0, ln, sc)) (j := j) (by omega) hdy hu
          exact q_iret C B dX7_work_99 rfl rfl (fun t0 ht0 => ⟨by rw [hdn], _, hPp12, _, by rw [hwk]; exact hQf11, _, hwV_19, _, ⟨k_Tok_nil, _, fun i hi => absurd hi (Nat.not_lt_zero i), rfl⟩, _, hwD_6, by first | rfl | simp⟩)
        · have hdy : k_dy tx (k_rp tx) (bx, at0, ln, sc) j = 0 := h48
          refine q_eqL (L' := [(2, .int (nI 0)), (1, .int (nI j)), (0, .ref h0)]) (by rw [show (k_dpt tx ((k_di tx (k_rp tx) (bx, at0, ln, sc) j).1, (k_di tx (k_rp tx) (bx, at0, ln, sc) j).2.1, (k_di tx (k_rp tx) (bx, at0, ln, sc) j).2.2.1, (k_di tx (k_rp tx) (bx, at0, ln, sc) j).2.2.2) (k_at (k_rp tx) j)).2 = 0 from hdy]) ?_
          refine q_iconst (v := nI 1) C dX7_work_51 52 rfl (by decide) ?_
          refine q_goto C dX7_work_52 56 (by decide) ?_
          refine q_iadd (v := nI (j + 1)) C dX7_work_56 57 rfl (q_nadd (by omega)) ?_
          refine q_istore_n C dX7_work_57 58 rfl [(1, .int (nI (j + 1))), (2, .int (nI 0)), (0, .ref h0)] (by decide) rfl ?_
          refine q_goto C dX7_work_58 26 (by decide) ?_
          refine q_sub (L' := [(1, .int (nI (j + 1))), (2, .int (nI 0)), (0, .ref h0)]) [0, 1, 2] rfl ?_
          exact ih_lp (j + 1) wQ_42 (by omega) (by omega) (fun u hq => (Decidable.em (u = j)).elim (fun e => by subst e; exact hdy) (fun e => hu u (by omega))) (by rw [k_di_s]; exact hwQ_42)
  refine q_sub (L' := [(1, .int (nI 0)), (2, .int (nI 0)), (0, .ref h0)]) [1, 0, 2] rfl ?_
  exact lp _ 0 wQ (Nat.lt_succ_self _) (by omega) (fun u hu => absurd hu (Nat.not_lt_zero u)) hQ
