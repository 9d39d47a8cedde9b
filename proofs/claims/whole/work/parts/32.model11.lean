set_option maxHeartbeats 400000 in
set_option maxRecDepth 100000 in
theorem c_X7_fixesIf (l : Launch) {D : va_G} {tys : List (ClassId × FieldType)} {Z : (Nat → Prop) → State → Heap → Prop} (hZ : q_St Z) {cI : ClassId} (hI : tys[0]? = some (cI, .int)) (h0 : Nat) (aS : Nat) (aZ : Nat) (aV : Nat) (aN : Nat) (aU : Nat) (aD : Nat) (fd : Nat → Int32) (hh : Int64) (wP : va_W) (hP : k_isP cI h0 aS aZ aV aN aU aD fd hh wP) (bx : k_Bx) (at0 : Nat) (ln : List (Nat × Nat)) (sc : Nat → Int32) (wQ : va_W) (hQ : k_isQ cI aS bx at0 ln sc wQ) (k : Nat) (hk40 : k ≤ 40) : q_Ct l D tys Z yX7_fixesIf wsX7_fixesIf ({ frames := 4, cells := 0, slots := 0, locals := 132 } : Room) 0 0 [.ref h0, .int (nI k)] [wP, wQ] (fun v0 R0 _ => v0 = some (.int (nI ((k_fxi (bx, at0, ln, sc) k).2))) ∧ ∃ wQ', k_isQ cI aS ((k_fxi (bx, at0, ln, sc) k).1.1) ((k_fxi (bx, at0, ln, sc) k).1.2.1) ((k_fxi (bx, at0, ln, sc) k).1.2.2.1) ((k_fxi (bx, at0, ln, sc) k).1.2.2.2) wQ' ∧ R0 = [wP, wQ']) := by
  have hcI := hI
  refine q_ct (cc := cX7_fixesIf) (maxL := 3) (ret := (some .int)) (own := RX7) (by decide) rfl hZ (Nat.le_of_ble_eq_true rfl) rfl ?_
  intro p9 e9 R s9 m9 args below meth c9 A Q C B
  have hts := C.2.2.2.2.1
  refine q_eqL (L' := [(0, .ref h0), (1, .int (nI k))]) rfl ?_
  refine q_aload_n C dX7_fixesIf_0 1 0 rfl rfl ?_
  refine q_iload_n C dX7_fixesIf_1 2 1 rfl rfl ?_
  refine q_callV (k := 0) (ci := 6) (n := 1) (rest := []) (Rr := []) C rfl (k_isP_recv hP) rfl (c_X7_isPlace l hZ hI h0 aS aZ aV aN aU aD fd hh wP hP bx at0 ln sc wQ hQ (nI k)) gX7_fixesIf_X7_isPlace rfl rfl rfl (by decide +kernel) B.1 ⟨Nat.le_of_ble_eq_true rfl, Nat.le_of_ble_eq_true rfl⟩ rfl rfl (Nat.le_of_ble_eq_true rfl) dX7_fixesIf_2 ⟨Nat.le_of_ble_eq_true rfl, Nat.le_of_ble_eq_true rfl⟩ [0, 1] [] (by decide : ([0, 1] ++ ([] : List Nat)).Perm (List.range 2)) rfl rfl 5 rfl (fun v0 R0 t0 ht0 hp0 => ?_)
  obtain ⟨rfl, rfl⟩ := hp0
  refine q_eqs (st' := [.int (q_b (k_has ln (nI k)))]) rfl ?_
  refine q_eqR (Rs' := [wP, wQ]) rfl ?_
  refine q_eqs (st' := [.int (q_b (decide (k < ln.length)))]) (by rw [k_has_n hQ.2.2.1.1 (by omega)]) ?_
  refine q_if_eq (P := ¬ (k < ln.length)) C dX7_fixesIf_5 8 16 rfl (by decide) q_bd0 (fun h5 => ?_) (fun h5 => ?_)
  · refine q_bipush (v := nI 7) C dX7_fixesIf_16 18 rfl (by decide) ?_
    refine q_istore_n C dX7_fixesIf_18 19 rfl [(2, .int (nI 7)), (0, .ref h0), (1, .int (nI k))] (by decide) rfl ?_
    refine q_iload_n C dX7_fixesIf_19 20 0 rfl rfl ?_
    refine q_if_ne C dX7_fixesIf_20 23 29 rfl (by decide) (q_eq0 (by omega)) (fun h20 => ?_) (fun h20 => False.elim (by first | omega | simp_all))
    refine q_iload_n C dX7_fixesIf_29 30 0 rfl rfl ?_
    exact q_iret C B dX7_fixesIf_30 rfl rfl (fun t0 ht0 => ⟨by rw [show k_fxi (bx, at0, ln, sc) k = _ from if_neg (by omega)], _, by rw [show k_fxi (bx, at0, ln, sc) k = _ from if_neg (by omega)]; exact hQ, rfl⟩)
  · refine q_aload_n C dX7_fixesIf_8 9 0 rfl rfl ?_
    refine q_iload_n C dX7_fixesIf_9 10 1 rfl rfl ?_
    refine q_callV (k := 0) (ci := 6) (n := 1) (rest := []) (Rr := []) C rfl (k_isP_recv hP) rfl (c_X7_refusesFix l hZ hI h0 aS aZ aV aN aU aD fd hh wP hP bx at0 ln sc wQ hQ k (by omega)) gX7_fixesIf_X7_refusesFix rfl rfl rfl (by decide +kernel) B.1 ⟨Nat.le_of_ble_eq_true rfl, Nat.le_of_ble_eq_true rfl⟩ rfl rfl (Nat.le_of_ble_eq_true rfl) dX7_fixesIf_10 ⟨Nat.le_of_ble_eq_true rfl, Nat.le_of_ble_eq_true rfl⟩ [0, 1] [] (by decide : ([0, 1] ++ ([] : List Nat)).Perm (List.range 2)) rfl rfl 13 rfl (fun v0 R0 t0 ht0 hp0 => ?_)
    obtain ⟨rfl, rfl⟩ := hp0
    refine q_eqs (st' := [.int (nI (k_wc bx ln sc k))]) rfl ?_
    refine q_eqR (Rs' := [wP, wQ]) rfl ?_
    have hw10 : k_wc bx ln sc k ≤ 5 := k_wc_le _ _ _ _
    refine q_goto C dX7_fixesIf_13 18 (by decide) ?_
    refine q_istore_n C dX7_fixesIf_18 19 rfl [(2, .int (nI (k_wc bx ln sc k))), (0, .ref h0), (1, .int (nI k))] (by decide) rfl ?_
    refine q_iload_n C dX7_fixesIf_19 20 0 rfl rfl ?_
    refine q_if_ne C dX7_fixesIf_20 23 29 rfl (by decide) (q_eq0 (by omega)) (fun h20 => ?_) (fun h20 => ?_)
    · refine q_iload_n C dX7_fixesIf_29 30 0 rfl rfl ?_
      exact q_iret C B dX7_fixesIf_30 rfl rfl (fun t0 ht0 => ⟨by rw [show k_fxi (bx, at0, ln, sc) k = _ from (if_pos (show k < ln.length by omega)).trans (if_neg (show ¬ k_wc bx ln sc k = 0 by omega))], _, by rw [show k_fxi (bx, at0, ln, sc) k = _ from (if_pos (show k < ln.length by omega)).trans (if_neg (show ¬ k_wc bx ln sc k = 0 by omega))]; exact hQ, rfl⟩)
    · refine q_aload_n C dX7_fixesIf_23 24 1 rfl rfl ?_
      refine q_iload_n C dX7_fixesIf_24 25 2 rfl rfl ?_
      refine q_callV (k := 0) (ci := 6) (n := 1) (rest := []) (Rr := []) C rfl (k_isP_recv hP) rfl (c_X7_fixes l hZ hI h0 aS aZ aV aN aU aD fd hh wP hP bx at0 ln sc wQ hQ k (by omega) h20) gX7_fixesIf_X7_fixes rfl rfl rfl (by decide +kernel) B.1 ⟨Nat.le_of_ble_eq_true rfl, Nat.le_of_ble_eq_true rfl⟩ rfl rfl (Nat.le_of_ble_eq_true rfl) dX7_fixesIf_25 ⟨Nat.le_of_ble_eq_true rfl, Nat.le_of_ble_eq_true rfl⟩ [0, 1] [] (by decide : ([0, 1] ++ ([] : List Nat)).Perm (List.range 2)) rfl rfl 28 rfl (fun v0 R0 t0 ht0 hp0 => ?_)
      obtain ⟨rfl, wQ_25, hwQ_25, rfl⟩ := hp0
      refine q_eqs (st' := [.int (nI (k_er (k_rep ln k (k_la ln k).2)))]) rfl ?_
      refine q_eqR (Rs' := [wP, wQ_25]) rfl ?_
      refine q_pop C dX7_fixesIf_28 29 rfl rfl ?_
      refine q_iload_n C dX7_fixesIf_29 30 0 rfl rfl ?_
      exact q_iret C B dX7_fixesIf_30 rfl rfl (fun t0 ht0 => ⟨by rw [show k_fxi (bx, at0, ln, sc) k = _ from (if_pos (show k < ln.length by omega)).trans (if_pos (show k_wc bx ln sc k = 0 by omega)), h20], _, by rw [show k_fxi (bx, at0, ln, sc) k = _ from (if_pos (show k < ln.length by omega)).trans (if_pos (show k_wc bx ln sc k = 0 by omega))]; exact hwQ_25, rfl⟩)

set_option maxHeartbeats 400000 in
set_option maxRecDepth 100000 in
theorem c_X7_returnsIf (l : Launch) {D : va_G} {tys : List (ClassId × FieldType)} {Z : (Nat → Prop) → State → Heap → Prop} (hZ : q_St Z) {cI : ClassId} (hI : tys[0]? = some (cI, .int)) (h0 : Nat) (aS : Nat) (aZ : Nat) (aV : Nat) (aN : Nat) (aU : Nat) (aD : Nat) (fd : Nat → Int32) (hh : Int64) (wP : va_W) (hP : k_isP cI h0 aS aZ aV aN aU aD fd hh wP) (bx : k_Bx) (at0 : Nat) (ln : List (Nat × Nat)) (sc : Nat → Int32) (wQ : va_W) (hQ : k_isQ cI aS bx at0 ln sc wQ) : q_Ct l D tys Z yX7_returnsIf wsX7_returnsIf ({ frames := 5, cells := 0, slots := 0, locals := 162 } : Room) 0 0 [.ref h0] [wP, wQ] (fun v0 R0 _ => v0 = some (.int (nI ((k_rti (bx, at0, ln, sc)).2))) ∧ ∃ wQ', k_isQ cI aS ((k_rti (bx, at0, ln, sc)).1.1) ((k_rti (bx, at0, ln, sc)).1.2.1) ((k_rti (bx, at0, ln, sc)).1.2.2.1) ((k_rti (bx, at0, ln, sc)).1.2.2.2) wQ' ∧ R0 = [wP, wQ']) := by
  have hcI := hI
  refine q_ct (cc := cX7_returnsIf) (maxL := 1) (ret := (some .int)) (own := RX7) (by decide) rfl hZ (Nat.le_of_ble_eq_true rfl) rfl ?_
  intro p9 e9 R s9 m9 args below meth c9 A Q C B
  have hts := C.2.2.2.2.1
  refine q_eqL (L' := [(0, .ref h0)]) rfl ?_
  refine q_aload_n C dX7_returnsIf_0 1 0 rfl rfl ?_
  refine q_callV (k := 0) (ci := 6) (n := 0) (rest := []) (Rr := []) C rfl (k_isP_recv hP) rfl (c_X7_canReturn l hZ hI h0 aS aZ aV aN aU aD fd hh wP hP bx at0 ln sc wQ hQ) gX7_returnsIf_X7_canReturn rfl rfl rfl (by decide +kernel) B.1 ⟨Nat.le_of_ble_eq_true rfl, Nat.le_of_ble_eq_true rfl⟩ rfl rfl (Nat.le_of_ble_eq_true rfl) dX7_returnsIf_1 ⟨Nat.le_of_ble_eq_true rfl, Nat.le_of_ble_eq_true rfl⟩ [0, 1] [] (by decide : ([0, 1] ++ ([] : List Nat)).Perm (List.range 2)) rfl rfl 4 rfl (fun v0 R0 t0 ht0 hp0 => ?_)
  obtain ⟨rfl, rfl⟩ := hp0
  refine q_eqs (st' := [.int (q_b (decide (k_wy bx ln sc = 0)))]) rfl ?_
  refine q_eqR (Rs' := [wP, wQ]) rfl ?_
  refine q_if_ne (P := ¬ (k_wy bx ln sc = 0)) C dX7_returnsIf_4 7 10 rfl (by decide) q_bd0 (fun h4 => ?_) (fun h4 => ?_)
  · refine q_aload_n C dX7_returnsIf_10 11 0 rfl rfl ?_
    refine q_callV (k := 0) (ci := 6) (n := 0) (rest := []) (Rr := []) C rfl (k_isP_recv hP) rfl (c_X7_returns l hZ hI h0 aS aZ aV aN aU aD fd hh wP hP bx at0 ln sc wQ hQ (Decidable.not_not.mp h4)) gX7_returnsIf_X7_returns rfl rfl rfl (by decide +kernel) B.1 ⟨Nat.le_of_ble_eq_true rfl, Nat.le_of_ble_eq_true rfl⟩ rfl rfl (Nat.le_of_ble_eq_true rfl) dX7_returnsIf_11 ⟨Nat.le_of_ble_eq_true rfl, Nat.le_of_ble_eq_true rfl⟩ [0, 1] [] (by decide : ([0, 1] ++ ([] : List Nat)).Perm (List.range 2)) rfl rfl 14 rfl (fun v0 R0 t0 ht0 hp0 => ?_)
    obtain ⟨rfl, wQ_11, hwQ_11, rfl⟩ := hp0
    refine q_eqs (st' := [.int (nI (k_wr (k_rb bx ln sc (ln).length)))]) rfl ?_
    refine q_eqR (Rs' := [wP, wQ_11]) rfl ?_
    refine q_pop C dX7_returnsIf_14 15 rfl rfl ?_
    refine q_iconst (v := nI 0) C dX7_returnsIf_15 16 rfl (by decide) ?_
    exact q_iret C B dX7_returnsIf_16 rfl rfl (fun t0 ht0 => ⟨by rw [show k_rti (bx, at0, ln, sc) = _ from if_pos (Decidable.not_not.mp h4)], _, by rw [show k_rti (bx, at0, ln, sc) = _ from if_pos (Decidable.not_not.mp h4)]; exact hwQ_11, rfl⟩)
  · refine q_bipush (v := nI 6) C dX7_returnsIf_7 9 rfl (by decide) ?_
    exact q_iret C B dX7_returnsIf_9 rfl rfl (fun t0 ht0 => ⟨by rw [show k_rti (bx, at0, ln, sc) = _ from if_neg h4], _, by rw [show k_rti (bx, at0, ln, sc) = _ from if_neg h4]; exact hQ, rfl⟩)

set_option maxHeartbeats 400000 in
set_option maxRecDepth 100000 in
theorem c_X7_setsAll (l : Launch) {D : va_G} {tys : List (ClassId × FieldType)} {Z : (Nat → Prop) → State → Heap → Prop} (hZ : q_St Z) {cI : ClassId} (hI : tys[0]? = some (cI, .int)) (h0 : Nat) (aS : Nat) (aZ : Nat) (aV : Nat) (aN : Nat) (aU : Nat) (aD : Nat) (fd : Nat → Int32) (hh : Int64) (wP : va_W) (hP : k_isP cI h0 aS aZ aV aN aU aD fd hh wP) (bx : k_Bx) (at0 : Nat) (ln : List (Nat × Nat)) (sc : Nat → Int32) (wQ : va_W) (hQ : k_isQ cI aS bx at0 ln sc wQ) (tx : List Nat) (wU : va_W) (hU : k_isU cI aU tx wU) (i0 : Nat) (m : Nat) (hsw : k_Sw (bx, at0, ln, sc)) (ham : i0 + m ≤ tx.length) (hlet : ∀ j, j < m → 97 ≤ k_sg tx (i0 + j) ∧ k_sg tx (i0 + j) ≤ 108) : q_Ct l D tys Z yX7_setsAll wsX7_setsAll ({ frames := 7, cells := 0, slots := 0, locals := 222 } : Room) 0 0 [.ref h0, .int (nI i0), .int (nI m)] [wP, wQ, wU] (fun v0 R0 _ => v0 = some (.int (nI ((k_sl tx m i0 (bx, at0, ln, sc)).2))) ∧ ∃ wQ', k_isQ cI aS ((k_sl tx m i0 (bx, at0, ln, sc)).1.1) ((k_sl tx m i0 (bx, at0, ln, sc)).1.2.1) ((k_sl tx m i0 (bx, at0, ln, sc)).1.2.2.1) ((k_sl tx m i0 (bx, at0, ln, sc)).1.2.2.2) wQ' ∧ R0 = [wP, wQ', wU]) := by
  have hcI := hI
  refine q_ct (cc := cX7_setsAll) (maxL := 5) (ret := (some .int)) (own := RX7) (by decide) rfl hZ (Nat.le_of_ble_eq_true rfl) rfl ?_
  intro p9 e9 R s9 m9 args below meth c9 A Q C B
  have hts := C.2.2.2.2.1
  have hinX7 : ∀ w ∈ u_ws RX7 TX7 16, w ∈ wsX7_setsAll := by decide +kernel
  have f22 := hts (.fieldLink RX7 22 "SortCasesModel" "buffer" "[I") (by decide +kernel)
  refine q_eqL (L' := [(0, .ref h0), (1, .int (nI i0)), (2, .int (nI m))]) rfl ?_
  have htl := hU.1.1
  refine q_iconst (v := nI 0) C dX7_setsAll_0 1 rfl (by decide) ?_
  refine q_istore_n C dX7_setsAll_1 2 rfl [(3, .int (nI 0)), (0, .ref h0), (1, .int (nI i0)), (2, .int (nI m))] (by decide) rfl ?_
  refine q_iload_n C dX7_setsAll_2 3 2 rfl rfl ?_
  refine q_istore C dX7_setsAll_3 5 rfl [(4, .int (nI i0)), (3, .int (nI 0)), (0, .ref h0), (1, .int (nI i0)), (2, .int (nI m))] (by decide) rfl ?_
  have lp : ∀ (kk : Nat) (j : Nat) (T : k_S) (wb : va_W), m - j < kk → ∀ (hj : j ≤ m), ∀ (hT : k_sl tx m i0 (bx, at0, ln, sc) = k_sl tx (m - j) (i0 + j) T), ∀ (hTw : k_Sw T), ∀ (hwb : k_isQ cI aS T.1 T.2.1 T.2.2.1 T.2.2.2 wb), q_V p9 l e9 R s9 m9 args below meth c9 D A 5 Q 0 0 5 [(3, .int (nI 0)), (4, .int (nI (i0 + j))), (0, .ref h0), (1, .int (nI i0)), (2, .int (nI m))] [] [wP, wb, wU] := by
    intro kk
    induction kk with
    | zero => intro j T wb hkk; exact absurd hkk (Nat.not_lt_zero _)
    | succ kk ih_lp =>
      intro j T wb hkk hj hT hTw hwb
      have hTl := hTw.1.2.2.1
      refine q_iload C dX7_setsAll_5 7 1 rfl rfl ?_
      refine q_iload_n C dX7_setsAll_7 8 3 rfl rfl ?_
      refine q_iload_n C dX7_setsAll_8 9 4 rfl rfl ?_
      refine q_iadd (v := nI (i0 + m)) C dX7_setsAll_9 10 rfl (q_nadd (by omega)) ?_
      refine q_icmp_ge C dX7_setsAll_10 13 57 rfl (by decide) (nI_leI (by omega) (by omega)) (fun h10 => ?_) (fun h10 => ?_)
      · refine q_iload_n C dX7_setsAll_57 58 0 rfl rfl ?_
        exact q_iret C B dX7_setsAll_58 rfl rfl (fun t0 ht0 => ⟨by rw [show k_sl tx m i0 (bx, at0, ln, sc) = (T, 0) from hT.trans (by rw [show m - j = 0 by omega]; rfl)], _, by rw [show k_sl tx m i0 (bx, at0, ln, sc) = (T, 0) from hT.trans (by rw [show m - j = 0 by omega]; rfl)]; exact hwb, rfl⟩)
      · refine q_iload_n C dX7_setsAll_13 14 0 rfl rfl ?_
        refine q_if_ne C dX7_setsAll_14 17 57 rfl (by decide) (q_eq0 (by omega)) (fun h14 => False.elim (by first | omega | simp_all)) (fun h14 => ?_)
        refine q_aload_n C dX7_setsAll_17 18 2 rfl rfl ?_
        refine q_aload_n C dX7_setsAll_18 19 2 rfl rfl ?_
        obtain rfl := hP
        have hPo1 : k_isP cI h0 aS aZ aV aN aU aD fd hh [(h0, .inr (6, [.int (fd 0), .ref aS, .ref aZ, .ref aV, .int (fd 4), .ref aN, .int (fd 6), .ref aU, .int (fd 8), .int (fd 9), .int (fd 10), .ref aD, .int (fd 12), .int (fd 13), .int (fd 14), .long hh]))] := rfl
        refine q_get (k := 0) (j := 0) (f := 7) C hinX7 f22 (fun _ h => h) (by decide) rfl dX7_setsAll_19 22 rfl rfl rfl rfl ?_
        refine q_iload C dX7_setsAll_22 24 1 rfl rfl ?_
        obtain ⟨htk2, fu2, htr2, rfl⟩ := hU
        have htl2 := htk2.1
        have hUo2 : k_isU cI aU tx [(aU, .inl (cI, 60, .inl fu2))] := ⟨htk2, fu2, htr2, rfl⟩
        refine q_iald (k := 2) (j := 0) (v := nI (k_at tx (i0 + j))) C dX7_setsAll_24 25 rfl rfl rfl hcI (i0 + j) rfl (by omega) (by decide) (htr2 (i0 + j) (by omega)) ?_
        have hux24_1 : k_at tx (i0 + j) ≤ 126 := (k_at_le htk2.2 (by omega)).2
        have huy24_2 : 33 ≤ k_at tx (i0 + j) := (k_at_le htk2.2 (by omega)).1
        refine q_bipush (v := nI 97) C dX7_setsAll_25 27 rfl (by decide) ?_
        have hlj := hlet j (by omega)
        have hgj : k_sg tx (i0 + j) = k_at tx (i0 + j) := k_sg_in (by omega)
        refine q_isub (v := nI (k_at tx (i0 + j) - 97)) C dX7_setsAll_27 28 rfl (q_nsub (by omega) (by omega)) ?_
        refine q_callV (k := 0) (ci := 6) (n := 1) (rest := []) (Rr := [[(aU, .inl (cI, 60, .inl fu2))]]) C rfl (k_isP_recv hPo1) rfl (c_X7_refusesLetter l hZ hI h0 aS aZ aV aN aU aD fd hh ([(h0, .inr (6, [.int (fd 0), .ref aS, .ref aZ, .ref aV, .int (fd 4), .ref aN, .int (fd 6), .ref aU, .int (fd 8), .int (fd 9), .int (fd 10), .ref aD, .int (fd 12), .int (fd 13), .int (fd 14), .long hh]))]) hPo1 T.1 T.2.1 T.2.2.1 T.2.2.2 wb hwb (k_at tx (i0 + j) - 97) (by omega)) gX7_setsAll_X7_refusesLetter rfl rfl rfl (by decide +kernel) B.1 ⟨Nat.le_of_ble_eq_true rfl, Nat.le_of_ble_eq_true rfl⟩ rfl rfl (Nat.le_of_ble_eq_true rfl) dX7_setsAll_28 ⟨Nat.le_of_ble_eq_true rfl, Nat.le_of_ble_eq_true rfl⟩ [0, 1] [2] (by decide : ([0, 1] ++ ([2] : List Nat)).Perm (List.range 3)) rfl rfl 31 rfl (fun v0 R0 t0 ht0 hp0 => ?_)
        obtain ⟨rfl, rfl⟩ := hp0
        refine q_eqs (st' := [.int (nI (k_wn T.1 T.2.2.1 T.2.2.2 (k_at tx (i0 + j) - 97)))]) rfl ?_
        refine q_eqR (Rs' := [[(h0, .inr (6, [.int (fd 0), .ref aS, .ref aZ, .ref aV, .int (fd 4), .ref aN, .int (fd 6), .ref aU, .int (fd 8), .int (fd 9), .int (fd 10), .ref aD, .int (fd 12), .int (fd 13), .int (fd 14), .long hh]))], wb, [(aU, .inl (cI, 60, .inl fu2))]]) rfl ?_
        have hw28 : k_wn T.1 T.2.2.1 T.2.2.2 (k_at tx (i0 + j) - 97) ≤ 2 := k_wn_le _ _ _ _
        refine q_istore_n C dX7_setsAll_31 32 rfl [(3, .int (nI (k_wn T.1 T.2.2.1 T.2.2.2 (k_at tx (i0 + j) - 97)))), (4, .int (nI (i0 + j))), (0, .ref h0), (1, .int (nI i0)), (2, .int (nI m))] (by decide) rfl ?_
        refine q_iload_n C dX7_setsAll_32 33 0 rfl rfl ?_
        refine q_if_ne C dX7_setsAll_33 36 51 rfl (by decide) (q_eq0 (by omega)) (fun h33 => ?_) (fun h33 => ?_)
        · have hgj97 : k_sg tx (i0 + j) - 97 = k_at tx (i0 + j) - 97 := by rw [hgj]
          refine q_iinc (v := nI (i0 + j + 1)) C dX7_setsAll_51 54 1 rfl rfl (q_ninc1 (by omega)) [(4, .int (nI (i0 + j + 1))), (3, .int (nI (k_wn T.1 T.2.2.1 T.2.2.2 (k_at tx (i0 + j) - 97)))), (0, .ref h0), (1, .int (nI i0)), (2, .int (nI m))] (by decide) rfl ?_
          refine q_goto C dX7_setsAll_54 5 (by decide) ?_
          refine q_iload C dX7_setsAll_5 7 0 rfl rfl ?_
          refine q_iload_n C dX7_setsAll_7 8 3 rfl rfl ?_
          refine q_iload_n C dX7_setsAll_8 9 4 rfl rfl ?_
          refine q_iadd (v := nI (i0 + m)) C dX7_setsAll_9 10 rfl (q_nadd (by omega)) ?_
          refine q_icmp_ge C dX7_setsAll_10 13 57 rfl (by decide) (nI_leI (by omega) (by omega)) (fun h10 => ?_) (fun h10 => ?_)
          · refine q_iload_n C dX7_setsAll_57 58 1 rfl rfl ?_
            exact q_iret C B dX7_setsAll_58 rfl rfl (fun t0 ht0 => ⟨by rw [show k_sl tx m i0 (bx, at0, ln, sc) = _ from hT.trans (by rw [show m - j = m - (j + 1) + 1 by omega, k_sl_no hgj97 h33])], _, by rw [show k_sl tx m i0 (bx, at0, ln, sc) = _ from hT.trans (by rw [show m - j = m - (j + 1) + 1 by omega, k_sl_no hgj97 h33])]; exact hwb, rfl⟩)
          · refine q_iload_n C dX7_setsAll_13 14 1 rfl rfl ?_
            refine q_if_ne C dX7_setsAll_14 17 57 rfl (by decide) (q_eq0 (by omega)) (fun h14 => ?_) (fun h14 => False.elim (by first | omega | simp_all))
            refine q_iload_n C dX7_setsAll_57 58 1 rfl rfl ?_
            exact q_iret C B dX7_setsAll_58 rfl rfl (fun t0 ht0 => ⟨by rw [show k_sl tx m i0 (bx, at0, ln, sc) = _ from hT.trans (by rw [show m - j = m - (j + 1) + 1 by omega, k_sl_no hgj97 h33])], _, by rw [show k_sl tx m i0 (bx, at0, ln, sc) = _ from hT.trans (by rw [show m - j = m - (j + 1) + 1 by omega, k_sl_no hgj97 h33])]; exact hwb, rfl⟩)
        · have hw0 : k_wn T.1 T.2.2.1 T.2.2.2 (k_sg tx (i0 + j) - 97) = 0 := by rw [hgj]; omega
          have hw1 := hw0
          rw [hgj] at hw1
          refine q_eqL (L' := [(3, .int (nI 0)), (4, .int (nI (i0 + j))), (0, .ref h0), (1, .int (nI i0)), (2, .int (nI m))]) (by rw [hw1]) ?_
          refine q_aload_n C dX7_setsAll_36 37 2 rfl rfl ?_
          refine q_aload_n C dX7_setsAll_37 38 2 rfl rfl ?_
          refine q_get (k := 0) (j := 0) (f := 7) C hinX7 f22 (fun _ h => h) (by decide) rfl dX7_setsAll_38 41 rfl rfl rfl rfl ?_
          refine q_iload C dX7_setsAll_41 43 1 rfl rfl ?_
          refine q_iald (k := 2) (j := 0) (v := nI (k_at tx (i0 + j))) C dX7_setsAll_43 44 rfl rfl rfl hcI (i0 + j) rfl (by omega) (by decide) (htr2 (i0 + j) (by omega)) ?_
          have hux43_3 : k_at tx (i0 + j) ≤ 126 := (k_at_le htk2.2 (by omega)).2
          have huy43_4 : 33 ≤ k_at tx (i0 + j) := (k_at_le htk2.2 (by omega)).1
          refine q_bipush (v := nI 97) C dX7_setsAll_44 46 rfl (by decide) ?_
          refine q_isub (v := nI (k_at tx (i0 + j) - 97)) C dX7_setsAll_46 47 rfl (q_nsub (by omega) (by omega)) ?_
          have hl0 := (k_wn_inv hw0).1
          rw [hgj] at hl0
          refine q_callV (k := 0) (ci := 6) (n := 1) (rest := []) (Rr := [[(aU, .inl (cI, 60, .inl fu2))]]) C rfl (k_isP_recv hPo1) rfl (c_X7_sets l hZ hI h0 aS aZ aV aN aU aD fd hh ([(h0, .inr (6, [.int (fd 0), .ref aS, .ref aZ, .ref aV, .int (fd 4), .ref aN, .int (fd 6), .ref aU, .int (fd 8), .int (fd 9), .int (fd 10), .ref aD, .int (fd 12), .int (fd 13), .int (fd 14), .long hh]))]) hPo1 T.1 T.2.1 T.2.2.1 T.2.2.2 wb hwb (k_at tx (i0 + j) - 97) (by omega) (by rw [← hgj]; exact (k_wn_inv hw0).1) (k_Sw_40 hTw hw0) hTw.2.2.1 hTw.2.2.2) gX7_setsAll_X7_sets rfl rfl rfl (by decide +kernel) B.1 ⟨Nat.le_of_ble_eq_true rfl, Nat.le_of_ble_eq_true rfl⟩ rfl rfl (Nat.le_of_ble_eq_true rfl) dX7_setsAll_47 ⟨Nat.le_of_ble_eq_true rfl, Nat.le_of_ble_eq_true rfl⟩ [0, 1] [2] (by decide : ([0, 1] ++ ([2] : List Nat)).Perm (List.range 3)) rfl rfl 50 rfl (fun v0 R0 t0 ht0 hp0 => ?_)
          obtain ⟨rfl, wQ_47, hwQ_47, rfl⟩ := hp0
          refine q_eqs (st' := [.int (nI (k_x T.1 (k_at tx (i0 + j) - 97)))]) rfl ?_
          refine q_eqR (Rs' := [[(h0, .inr (6, [.int (fd 0), .ref aS, .ref aZ, .ref aV, .int (fd 4), .ref aN, .int (fd 6), .ref aU, .int (fd 8), .int (fd 9), .int (fd 10), .ref aD, .int (fd 12), .int (fd 13), .int (fd 14), .long hh]))], wQ_47, [(aU, .inl (cI, 60, .inl fu2))]]) rfl ?_
          have ht47 : k_x T.1 (k_at tx (i0 + j) - 97) < 12 := k_x_lt hwb.2.1 (by omega) (by omega)
          refine q_pop C dX7_setsAll_50 51 rfl rfl ?_
          refine q_iinc (v := nI (i0 + j + 1)) C dX7_setsAll_51 54 1 rfl rfl (q_ninc1 (by omega)) [(4, .int (nI (i0 + j + 1))), (3, .int (nI 0)), (0, .ref h0), (1, .int (nI i0)), (2, .int (nI m))] (by decide) rfl ?_
          refine q_goto C dX7_setsAll_54 5 (by decide) ?_
          refine q_sub (L' := [(3, .int (nI 0)), (4, .int (nI (i0 + j + 1))), (0, .ref h0), (1, .int (nI i0)), (2, .int (nI m))]) [1, 0, 2, 3, 4] rfl ?_
          exact ih_lp (j + 1) (k_set T (k_sg tx (i0 + j) - 97)) wQ_47 (by omega) (by omega) (by rw [hT, show m - j = m - (j + 1) + 1 by omega, k_sl_go rfl hw0]; rfl) (k_Sw_set hTw (by omega) hw0) (by have hz := hwQ_47; rw [← hgj] at hz; exact hz)
  refine q_sub (L' := [(3, .int (nI 0)), (4, .int (nI i0)), (0, .ref h0), (1, .int (nI i0)), (2, .int (nI m))]) [1, 0, 2, 3, 4] rfl ?_
  exact lp _ 0 ((bx, at0, ln, sc)) wQ (Nat.lt_succ_self _) (by omega) rfl hsw hQ

set_option maxHeartbeats 400000 in
set_option maxRecDepth 100000 in
theorem c_X7_does (l : Launch) {D : va_G} {tys : List (ClassId × FieldType)} {Z : (Nat → Prop) → State → Heap → Prop} (hZ : q_St Z) {cI : ClassId} (hI : tys[0]? = some (cI, .int)) (h0 : Nat) (aS : Nat) (aZ : Nat) (aV : Nat) (aN : Nat) (aU : Nat) (aD : Nat) (fd : Nat → Int32) (hh : Int64) (wP : va_W) (hP : k_isP cI h0 aS aZ aV aN aU aD fd hh wP) (bx : k_Bx) (at0 : Nat) (ln : List (Nat × Nat)) (sc : Nat → Int32) (wQ : va_W) (hQ : k_isQ cI aS bx at0 ln sc wQ) (tx : List Nat) (wU : va_W) (hU : k_isU cI aU tx wU) (dx : List Nat) (ps : List Nat) (wD : va_W) (hD : k_isD cI aD dx ps wD) (k : Nat) (j : Nat) (hsw : k_Sw (bx, at0, ln, sc)) (hdx : tx = dx) (hkj : k = 3 * j) (hj : j < ps.length) (hj12 : j ≤ 20) (hok : k_okp tx (k_at ps j) = true) (ha60 : k_at ps j ≤ tx.length) : q_Ct l D tys Z yX7_does wsX7_does ({ frames := 8, cells := 0, slots := 0, locals := 252 } : Room) 0 0 [.ref h0, .int (nI k)] [wP, wQ, wU, wD] (fun v0 R0 _ => v0 = some (.int (nI ((k_dpt tx (bx, at0, ln, sc) (k_at ps j)).2))) ∧ ∃ wQ', k_isQ cI aS ((k_dpt tx (bx, at0, ln, sc) (k_at ps j)).1.1) ((k_dpt tx (bx, at0, ln, sc) (k_at ps j)).1.2.1) ((k_dpt tx (bx, at0, ln, sc) (k_at ps j)).1.2.2.1) ((k_dpt tx (bx, at0, ln, sc) (k_at ps j)).1.2.2.2) wQ' ∧ R0 = [wP, wQ', wU, wD]) := by
  have hcI := hI
  refine q_ct (cc := cX7_does) (maxL := 2) (ret := (some .int)) (own := RX7) (by decide) rfl hZ (Nat.le_of_ble_eq_true rfl) rfl ?_
  intro p9 e9 R s9 m9 args below meth c9 A Q C B
  have hts := C.2.2.2.2.1
  have hinX7 : ∀ w ∈ u_ws RX7 TX7 16, w ∈ wsX7_does := by decide +kernel
  have f25 := hts (.fieldLink RX7 25 "SortCasesModel" "read" "[I") (by decide +kernel)
  refine q_eqL (L' := [(0, .ref h0), (1, .int (nI k))]) rfl ?_
  subst hdx
  subst hkj
  have htl := hU.1.1
  have hmxe := k_mx_end ha60
  obtain ⟨fr1, hrd1, rfl⟩ := hD
  have hDo1 : k_isD cI aD tx ps [(aD, .inl (cI, 64, .inl fr1))] := ⟨fr1, hrd1, rfl⟩
  refine q_aload_n C dX7_does_0 1 0 rfl rfl ?_
  obtain rfl := hP
  have hPo2 : k_isP cI h0 aS aZ aV aN aU aD fd hh [(h0, .inr (6, [.int (fd 0), .ref aS, .ref aZ, .ref aV, .int (fd 4), .ref aN, .int (fd 6), .ref aU, .int (fd 8), .int (fd 9), .int (fd 10), .ref aD, .int (fd 12), .int (fd 13), .int (fd 14), .long hh]))] := rfl
  refine q_get (k := 0) (j := 0) (f := 11) C hinX7 f25 (fun _ h => h) (by decide) rfl dX7_does_1 4 rfl rfl rfl rfl ?_
  refine q_iload_n C dX7_does_4 5 1 rfl rfl ?_
  refine q_iald (k := 3) (j := 0) (v := nI (k_kd tx (k_at ps j))) C dX7_does_5 6 rfl rfl rfl hcI (3 * j) rfl (by omega) (by decide) ((hrd1 j hj).1) ?_
  obtain hk | hk | hk | hk | hk : k_kd tx (k_at ps j) = 1 ∨ k_kd tx (k_at ps j) = 2 ∨ k_kd tx (k_at ps j) = 3 ∨ k_kd tx (k_at ps j) = 4 ∨ k_kd tx (k_at ps j) = 5 := by have hkl := k_kd_lt tx (k_at ps j); omega
  · refine q_eqs (st' := [.int (nI 1)]) (by rw [hk]) ?_
    · refine q_tableIn C dX7_does_6 36 (by decide) (by decide) rfl (by decide) ?_
      refine q_aload_n C dX7_does_36 37 0 rfl rfl ?_
      refine q_aload_n C dX7_does_37 38 0 rfl rfl ?_
      refine q_get (k := 0) (j := 0) (f := 11) C hinX7 f25 (fun _ h => h) (by decide) rfl dX7_does_38 41 rfl rfl rfl rfl ?_
      refine q_iload_n C dX7_does_41 42 1 rfl rfl ?_
      refine q_iconst (v := nI 1) C dX7_does_42 43 rfl (by decide) ?_
      refine q_iadd (v := nI (3 * j + 1)) C dX7_does_43 44 rfl (q_nadd (by omega)) ?_
      refine q_iald (k := 3) (j := 0) (v := nI (k_at ps j + 4)) C dX7_does_44 45 rfl rfl rfl hcI (3 * j + 1) rfl (by omega) (by decide) (((hrd1 j hj).2.1 hk).1) ?_
      refine q_aload_n C dX7_does_45 46 0 rfl rfl ?_
      refine q_get (k := 0) (j := 0) (f := 11) C hinX7 f25 (fun _ h => h) (by decide) rfl dX7_does_46 49 rfl rfl rfl rfl ?_
      refine q_iload_n C dX7_does_49 50 1 rfl rfl ?_
      refine q_iconst (v := nI 2) C dX7_does_50 51 rfl (by decide) ?_
      refine q_iadd (v := nI (3 * j + 2)) C dX7_does_51 52 rfl (q_nadd (by omega)) ?_
      refine q_iald (k := 3) (j := 0) (v := nI (k_lw tx 60 (k_at ps j + 4))) C dX7_does_52 53 rfl rfl rfl hcI (3 * j + 2) rfl (by omega) (by decide) (((hrd1 j hj).2.1 hk).2) ?_
      have hend := k_lw_end (tx := tx) (m := 60) (i := k_at ps j + 4) (by have h1 := k_okp_ge hok; omega)
      refine q_callV (k := 0) (ci := 6) (n := 2) (rest := []) (Rr := [[(aD, .inl (cI, 64, .inl fr1))]]) C rfl (k_isP_recv hPo2) rfl (c_X7_setsAll l hZ hI h0 aS aZ aV aN aU aD fd hh ([(h0, .inr (6, [.int (fd 0), .ref aS, .ref aZ, .ref aV, .int (fd 4), .ref aN, .int (fd 6), .ref aU, .int (fd 8), .int (fd 9), .int (fd 10), .ref aD, .int (fd 12), .int (fd 13), .int (fd 14), .long hh]))]) hPo2 bx at0 ln sc wQ hQ tx wU hU (k_at ps j + 4) (k_lw tx 60 (k_at ps j + 4)) hsw hend (fun i hi => k_lw_all hi)) gX7_does_X7_setsAll rfl rfl rfl (by decide +kernel) B.1 ⟨Nat.le_of_ble_eq_true rfl, Nat.le_of_ble_eq_true rfl⟩ rfl rfl (Nat.le_of_ble_eq_true rfl) dX7_does_53 ⟨Nat.le_of_ble_eq_true rfl, Nat.le_of_ble_eq_true rfl⟩ [0, 1, 2] [3] (by decide : ([0, 1, 2] ++ ([3] : List Nat)).Perm (List.range 4)) rfl rfl 56 rfl (fun v0 R0 t0 ht0 hp0 => ?_)
      obtain ⟨rfl, wQ_53, hwQ_53, rfl⟩ := hp0
      refine q_eqs (st' := [.int (nI ((k_sl tx (k_lw tx 60 (k_at ps j + 4)) (k_at ps j + 4) (bx, at0, ln, sc)).2))]) rfl ?_
      refine q_eqR (Rs' := [[(h0, .inr (6, [.int (fd 0), .ref aS, .ref aZ, .ref aV, .int (fd 4), .ref aN, .int (fd 6), .ref aU, .int (fd 8), .int (fd 9), .int (fd 10), .ref aD, .int (fd 12), .int (fd 13), .int (fd 14), .long hh]))], wQ_53, wU, [(aD, .inl (cI, 64, .inl fr1))]]) rfl ?_
      exact q_iret C B dX7_does_56 rfl rfl (fun t0 ht0 => ⟨by rw [k_dpt_1 hk], _, by rw [k_dpt_1 hk]; exact hwQ_53, rfl⟩)
  · refine q_eqs (st' := [.int (nI 2)]) (by rw [hk]) ?_
    · refine q_tableIn C dX7_does_6 57 (by decide) (by decide) rfl (by decide) ?_
      refine q_aload_n C dX7_does_57 58 0 rfl rfl ?_
      refine q_aload_n C dX7_does_58 59 0 rfl rfl ?_
      refine q_get (k := 0) (j := 0) (f := 11) C hinX7 f25 (fun _ h => h) (by decide) rfl dX7_does_59 62 rfl rfl rfl rfl ?_
      refine q_iload_n C dX7_does_62 63 1 rfl rfl ?_
      refine q_iconst (v := nI 1) C dX7_does_63 64 rfl (by decide) ?_
      refine q_iadd (v := nI (3 * j + 1)) C dX7_does_64 65 rfl (q_nadd (by omega)) ?_
      refine q_iald (k := 3) (j := 0) (v := nI (k_nv tx 40 (k_at ps j + 3))) C dX7_does_65 66 rfl rfl rfl hcI (3 * j + 1) rfl (by omega) (by decide) ((hrd1 j hj).2.2.1 hk) ?_
      have hdp := k_okp_is hok hk
      have hnv := k_nv_le (hi := 40) (by omega) (k_dw_pos (tx := tx) (lo := 0) (hi := 40) (i := k_at ps j + 3) (by have : k_sho 2 = 4 := rfl; have : (k_wo 2).length = 3 := rfl; have : k_rs tx 2 (k_at ps j + (k_wo 2).length) = k_dw tx 0 40 (k_at ps j + 3) := rfl; omega))
      refine q_callV (k := 0) (ci := 6) (n := 1) (rest := []) (Rr := [wU, [(aD, .inl (cI, 64, .inl fr1))]]) C rfl (k_isP_recv hPo2) rfl (c_X7_fixesIf l hZ hI h0 aS aZ aV aN aU aD fd hh ([(h0, .inr (6, [.int (fd 0), .ref aS, .ref aZ, .ref aV, .int (fd 4), .ref aN, .int (fd 6), .ref aU, .int (fd 8), .int (fd 9), .int (fd 10), .ref aD, .int (fd 12), .int (fd 13), .int (fd 14), .long hh]))]) hPo2 bx at0 ln sc wQ hQ (k_nv tx 40 (k_at ps j + 3)) hnv) gX7_does_X7_fixesIf rfl rfl rfl (by decide +kernel) B.1 ⟨Nat.le_of_ble_eq_true rfl, Nat.le_of_ble_eq_true rfl⟩ rfl rfl (Nat.le_of_ble_eq_true rfl) dX7_does_66 ⟨Nat.le_of_ble_eq_true rfl, Nat.le_of_ble_eq_true rfl⟩ [0, 1] [2, 3] (by decide : ([0, 1] ++ ([2, 3] : List Nat)).Perm (List.range 4)) rfl rfl 69 rfl (fun v0 R0 t0 ht0 hp0 => ?_)
      obtain ⟨rfl, wQ_66, hwQ_66, rfl⟩ := hp0
      refine q_eqs (st' := [.int (nI ((k_fxi (bx, at0, ln, sc) (k_nv tx 40 (k_at ps j + 3))).2))]) rfl ?_
      refine q_eqR (Rs' := [[(h0, .inr (6, [.int (fd 0), .ref aS, .ref aZ, .ref aV, .int (fd 4), .ref aN, .int (fd 6), .ref aU, .int (fd 8), .int (fd 9), .int (fd 10), .ref aD, .int (fd 12), .int (fd 13), .int (fd 14), .long hh]))], wQ_66, wU, [(aD, .inl (cI, 64, .inl fr1))]]) rfl ?_
      exact q_iret C B dX7_does_69 rfl rfl (fun t0 ht0 => ⟨by rw [k_dpt_2 hk], _, by rw [k_dpt_2 hk]; exact hwQ_66, rfl⟩)
  · refine q_eqs (st' := [.int (nI 3)]) (by rw [hk]) ?_
    · refine q_tableIn C dX7_does_6 70 (by decide) (by decide) rfl (by decide) ?_
      refine q_aload_n C dX7_does_70 71 0 rfl rfl ?_
      refine q_callV (k := 0) (ci := 6) (n := 0) (rest := []) (Rr := [wU, [(aD, .inl (cI, 64, .inl fr1))]]) C rfl (k_isP_recv hPo2) rfl (c_X7_returnsIf l hZ hI h0 aS aZ aV aN aU aD fd hh ([(h0, .inr (6, [.int (fd 0), .ref aS, .ref aZ, .ref aV, .int (fd 4), .ref aN, .int (fd 6), .ref aU, .int (fd 8), .int (fd 9), .int (fd 10), .ref aD, .int (fd 12), .int (fd 13), .int (fd 14), .long hh]))]) hPo2 bx at0 ln sc wQ hQ) gX7_does_X7_returnsIf rfl rfl rfl (by decide +kernel) B.1 ⟨Nat.le_of_ble_eq_true rfl, Nat.le_of_ble_eq_true rfl⟩ rfl rfl (Nat.le_of_ble_eq_true rfl) dX7_does_71 ⟨Nat.le_of_ble_eq_true rfl, Nat.le_of_ble_eq_true rfl⟩ [0, 1] [2, 3] (by decide : ([0, 1] ++ ([2, 3] : List Nat)).Perm (List.range 4)) rfl rfl 74 rfl (fun v0 R0 t0 ht0 hp0 => ?_)
      obtain ⟨rfl, wQ_71, hwQ_71, rfl⟩ := hp0
      refine q_eqs (st' := [.int (nI ((k_rti (bx, at0, ln, sc)).2))]) rfl ?_
      refine q_eqR (Rs' := [[(h0, .inr (6, [.int (fd 0), .ref aS, .ref aZ, .ref aV, .int (fd 4), .ref aN, .int (fd 6), .ref aU, .int (fd 8), .int (fd 9), .int (fd 10), .ref aD, .int (fd 12), .int (fd 13), .int (fd 14), .long hh]))], wQ_71, wU, [(aD, .inl (cI, 64, .inl fr1))]]) rfl ?_
      exact q_iret C B dX7_does_74 rfl rfl (fun t0 ht0 => ⟨by rw [k_dpt_3 hk], _, by rw [k_dpt_3 hk]; exact hwQ_71, rfl⟩)
  · refine q_eqs (st' := [.int (nI 4)]) (by rw [hk]) ?_
    · refine q_tableIn C dX7_does_6 75 (by decide) (by decide) rfl (by decide) ?_
      refine q_aload_n C dX7_does_75 76 0 rfl rfl ?_
      refine q_aload_n C dX7_does_76 77 0 rfl rfl ?_
      refine q_get (k := 0) (j := 0) (f := 11) C hinX7 f25 (fun _ h => h) (by decide) rfl dX7_does_77 80 rfl rfl rfl rfl ?_
      refine q_iload_n C dX7_does_80 81 1 rfl rfl ?_
      refine q_iconst (v := nI 1) C dX7_does_81 82 rfl (by decide) ?_
      refine q_iadd (v := nI (3 * j + 1)) C dX7_does_82 83 rfl (q_nadd (by omega)) ?_
      refine q_iald (k := 3) (j := 0) (v := nI (k_nv tx 99 (k_at ps j + 4))) C dX7_does_83 84 rfl rfl rfl hcI (3 * j + 1) rfl (by omega) (by decide) ((hrd1 j hj).2.2.2.1 hk) ?_
      have hdp := k_okp_is hok hk
      have hnv := k_nv_le (hi := 99) (by omega) (k_dw_pos (tx := tx) (lo := 1) (hi := 99) (i := k_at ps j + 4) (by have : k_sho 4 = 5 := rfl; have : (k_wo 4).length = 4 := rfl; have : k_rs tx 4 (k_at ps j + (k_wo 4).length) = k_dw tx 1 99 (k_at ps j + 4) := rfl; omega))
      refine q_callV (k := 0) (ci := 6) (n := 1) (rest := []) (Rr := [wU, [(aD, .inl (cI, 64, .inl fr1))]]) C rfl (k_isP_recv hPo2) rfl (c_X7_idles l hZ hI h0 aS aZ aV aN aU aD fd hh ([(h0, .inr (6, [.int (fd 0), .ref aS, .ref aZ, .ref aV, .int (fd 4), .ref aN, .int (fd 6), .ref aU, .int (fd 8), .int (fd 9), .int (fd 10), .ref aD, .int (fd 12), .int (fd 13), .int (fd 14), .long hh]))]) hPo2 bx at0 ln sc wQ hQ (k_nv tx 99 (k_at ps j + 4)) (by omega)) gX7_does_X7_idles rfl rfl rfl (by decide +kernel) B.1 ⟨Nat.le_of_ble_eq_true rfl, Nat.le_of_ble_eq_true rfl⟩ rfl rfl (Nat.le_of_ble_eq_true rfl) dX7_does_84 ⟨Nat.le_of_ble_eq_true rfl, Nat.le_of_ble_eq_true rfl⟩ [0, 1] [2, 3] (by decide : ([0, 1] ++ ([2, 3] : List Nat)).Perm (List.range 4)) rfl rfl 87 rfl (fun v0 R0 t0 ht0 hp0 => ?_)
      obtain ⟨rfl, wQ_84, hwQ_84, rfl⟩ := hp0
      refine q_eqs (st' := [.int (nI (k_cnt (k_bm bx at0 (-1)) (k_nv tx 99 (k_at ps j + 4))))]) rfl ?_
      refine q_eqR (Rs' := [[(h0, .inr (6, [.int (fd 0), .ref aS, .ref aZ, .ref aV, .int (fd 4), .ref aN, .int (fd 6), .ref aU, .int (fd 8), .int (fd 9), .int (fd 10), .ref aD, .int (fd 12), .int (fd 13), .int (fd 14), .long hh]))], wQ_84, wU, [(aD, .inl (cI, 64, .inl fr1))]]) rfl ?_
      refine q_pop C dX7_does_87 88 rfl rfl ?_
      refine q_iconst (v := nI 0) C dX7_does_88 89 rfl (by decide) ?_
      exact q_iret C B dX7_does_89 rfl rfl (fun t0 ht0 => ⟨by rw [k_dpt_4 hk], _, by rw [k_dpt_4 hk]; exact hwQ_84, rfl⟩)
  · refine q_eqs (st' := [.int (nI 5)]) (by rw [hk]) ?_
    · refine q_tableOut C dX7_does_6 90 (by decide) (by decide) ?_
      refine q_aload_n C dX7_does_90 91 0 rfl rfl ?_
      refine q_aload_n C dX7_does_91 92 0 rfl rfl ?_
      refine q_get (k := 0) (j := 0) (f := 11) C hinX7 f25 (fun _ h => h) (by decide) rfl dX7_does_92 95 rfl rfl rfl rfl ?_
      refine q_iload_n C dX7_does_95 96 1 rfl rfl ?_
      refine q_iconst (v := nI 1) C dX7_does_96 97 rfl (by decide) ?_
      refine q_iadd (v := nI (3 * j + 1)) C dX7_does_97 98 rfl (q_nadd (by omega)) ?_
      refine q_iald (k := 3) (j := 0) (v := nI (k_sg tx (k_at ps j + 5) - 97)) C dX7_does_98 99 rfl rfl rfl hcI (3 * j + 1) rfl (by omega) (by decide) (((hrd1 j hj).2.2.2.2 hk).1) ?_
      refine q_aload_n C dX7_does_99 100 0 rfl rfl ?_
      refine q_get (k := 0) (j := 0) (f := 11) C hinX7 f25 (fun _ h => h) (by decide) rfl dX7_does_100 103 rfl rfl rfl rfl ?_
      refine q_iload_n C dX7_does_103 104 1 rfl rfl ?_
      refine q_iconst (v := nI 2) C dX7_does_104 105 rfl (by decide) ?_
      refine q_iadd (v := nI (3 * j + 2)) C dX7_does_105 106 rfl (q_nadd (by omega)) ?_
      refine q_iald (k := 3) (j := 0) (v := nI (k_sg tx (k_at ps j + 6) - 97)) C dX7_does_106 107 rfl rfl rfl hcI (3 * j + 2) rfl (by omega) (by decide) (((hrd1 j hj).2.2.2.2 hk).2) ?_
      have hsw5 := k_swap_ok hok hk
      refine q_callV (k := 0) (ci := 6) (n := 2) (rest := []) (Rr := [wU, [(aD, .inl (cI, 64, .inl fr1))]]) C rfl (k_isP_recv hPo2) rfl (c_X7_swaps l hZ hI h0 aS aZ aV aN aU aD fd hh ([(h0, .inr (6, [.int (fd 0), .ref aS, .ref aZ, .ref aV, .int (fd 4), .ref aN, .int (fd 6), .ref aU, .int (fd 8), .int (fd 9), .int (fd 10), .ref aD, .int (fd 12), .int (fd 13), .int (fd 14), .long hh]))]) hPo2 bx at0 ln sc wQ hQ (k_sg tx (k_at ps j + 5) - 97) (k_sg tx (k_at ps j + 6) - 97) (by omega) (by omega)) gX7_does_X7_swaps rfl rfl rfl (by decide +kernel) B.1 ⟨Nat.le_of_ble_eq_true rfl, Nat.le_of_ble_eq_true rfl⟩ rfl rfl (Nat.le_of_ble_eq_true rfl) dX7_does_107 ⟨Nat.le_of_ble_eq_true rfl, Nat.le_of_ble_eq_true rfl⟩ [0, 1] [2, 3] (by decide : ([0, 1] ++ ([2, 3] : List Nat)).Perm (List.range 4)) rfl rfl 110 rfl (fun v0 R0 t0 ht0 hp0 => ?_)
      obtain ⟨rfl, wQ_107, hwQ_107, rfl⟩ := hp0
      refine q_eqs (st' := [.int (nI (k_wr (k_ex bx (k_sg tx (k_at ps j + 5) - 97) (k_sg tx (k_at ps j + 6) - 97))))]) rfl ?_
      refine q_eqR (Rs' := [[(h0, .inr (6, [.int (fd 0), .ref aS, .ref aZ, .ref aV, .int (fd 4), .ref aN, .int (fd 6), .ref aU, .int (fd 8), .int (fd 9), .int (fd 10), .ref aD, .int (fd 12), .int (fd 13), .int (fd 14), .long hh]))], wQ_107, wU, [(aD, .inl (cI, 64, .inl fr1))]]) rfl ?_
      refine q_pop C dX7_does_110 111 rfl rfl ?_
      refine q_iconst (v := nI 0) C dX7_does_111 112 rfl (by decide) ?_
      exact q_iret C B dX7_does_112 rfl rfl (fun t0 ht0 => ⟨by rw [k_dpt_5 hk], _, by rw [k_dpt_5 hk]; exact hwQ_107, rfl⟩)
