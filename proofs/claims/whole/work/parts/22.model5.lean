set_option maxHeartbeats 400000 in
set_option maxRecDepth 100000 in
theorem c_X7_set_a (l : Launch) {D : va_G} {tys : List (ClassId × FieldType)} {Z : (Nat → Prop) → State → Heap → Prop} (hZ : q_St Z) {cI : ClassId} (hI : tys[0]? = some (cI, .int)) (h0 : Nat) (aS : Nat) (aZ : Nat) (aV : Nat) (aN : Nat) (aU : Nat) (aD : Nat) (fd : Nat → Int32) (hh : Int64) (w : va_W) (h : k_isP cI h0 aS aZ aV aN aU aD fd hh w) (v : Int32) (hbad : ¬ ((0 : Int32) ≤ v ∧ v ≤ 11)) : q_Ct l D tys Z yX7_set wsX7_set ({ frames := 7, cells := 0, slots := 0, locals := 222 } : Room) 0 0 [.ref h0, .int v] [w] (fun v0 R0 _ => v0 = some (.int (nI 0)) ∧ ∃ w', k_isP cI h0 aS aZ aV aN aU aD (upd (upd fd 0 (nI 0)) 0 (nI 1)) hh w' ∧ R0 = [w']) := by
  have hcI := hI
  refine q_ct (cc := cX7_set) (maxL := 2) (ret := (some .int)) (own := RX7) (by decide) rfl hZ (Nat.le_of_ble_eq_true rfl) rfl ?_
  intro p9 e9 R s9 m9 args below meth c9 A Q C B
  have hts := C.2.2.2.2.1
  have hinX7 : ∀ w ∈ u_ws RX7 TX7 16, w ∈ wsX7_set := by decide +kernel
  have f28 := hts (.fieldLink RX7 28 "SortCasesModel" "thrown" "I") (by decide +kernel)
  refine q_eqL (L' := [(0, .ref h0), (1, .int v)]) rfl ?_
  refine q_aload_n C dX7_set_0 1 0 rfl rfl ?_
  refine q_iconst (v := nI 0) C dX7_set_1 2 rfl (by decide) ?_
  obtain rfl := h
  have hPo1 : k_isP cI h0 aS aZ aV aN aU aD fd hh [(h0, .inr (6, [.int (fd 0), .ref aS, .ref aZ, .ref aV, .int (fd 4), .ref aN, .int (fd 6), .ref aU, .int (fd 8), .int (fd 9), .int (fd 10), .ref aD, .int (fd 12), .int (fd 13), .int (fd 14), .long hh]))] := rfl
  refine q_put (k := 0) (j := 0) (f := 0) C hinX7 tyX7 tyX7_ok nmX7 f28 (fun _ h => h) (by decide) rfl rfl (tyX7_ok 0 (by decide)) rfl rfl dX7_set_2 5 rfl rfl rfl (Nat.le_of_ble_eq_true rfl) [[(h0, .inr (6, [.int (nI 0), .ref aS, .ref aZ, .ref aV, .int (fd 4), .ref aN, .int (fd 6), .ref aU, .int (fd 8), .int (fd 9), .int (fd 10), .ref aD, .int (fd 12), .int (fd 13), .int (fd 14), .long hh]))]] rfl ?_
  have hPp2 : k_isP cI h0 aS aZ aV aN aU aD (upd fd 0 (nI 0)) hh [(h0, .inr (6, [.int (nI 0), .ref aS, .ref aZ, .ref aV, .int (fd 4), .ref aN, .int (fd 6), .ref aU, .int (fd 8), .int (fd 9), .int (fd 10), .ref aD, .int (fd 12), .int (fd 13), .int (fd 14), .long hh]))] := rfl
  refine q_iload_n C dX7_set_5 6 1 rfl rfl ?_
  refine q_callS (n := 1) (rest := []) (Rr := [[(h0, .inr (6, [.int (nI 0), .ref aS, .ref aZ, .ref aV, .int (fd 4), .ref aN, .int (fd 6), .ref aU, .int (fd 8), .int (fd 9), .int (fd 10), .ref aD, .int (fd 12), .int (fd 13), .int (fd 14), .long hh]))]]) C (c_X7_isBox_f l hZ hI v hbad) gX7_set_X7_isBox rfl rfl rfl (by decide +kernel) B.1 ⟨Nat.le_of_ble_eq_true rfl, Nat.le_of_ble_eq_true rfl⟩ rfl rfl (Nat.le_of_ble_eq_true rfl) dX7_set_6 ⟨Nat.le_of_ble_eq_true rfl, Nat.le_of_ble_eq_true rfl⟩ [] [0] (by decide : ([] ++ ([0] : List Nat)).Perm (List.range 1)) rfl rfl 9 rfl (fun v0 R0 t0 ht0 hp0 => ?_)
  obtain ⟨rfl, rfl⟩ := hp0
  refine q_eqs (st' := [.int (nI 0)]) rfl ?_
  refine q_eqR (Rs' := [[(h0, .inr (6, [.int (nI 0), .ref aS, .ref aZ, .ref aV, .int (fd 4), .ref aN, .int (fd 6), .ref aU, .int (fd 8), .int (fd 9), .int (fd 10), .ref aD, .int (fd 12), .int (fd 13), .int (fd 14), .long hh]))]]) rfl ?_
  refine q_if_ne C dX7_set_9 12 18 rfl (by decide) (q_eq0 (by omega)) (fun h9 => False.elim (by first | omega | simp_all)) (fun h9 => ?_)
  refine q_aload_n C dX7_set_12 13 0 rfl rfl ?_
  refine q_iconst (v := nI 1) C dX7_set_13 14 rfl (by decide) ?_
  refine q_callV (k := 0) (ci := 6) (n := 1) (rest := []) (Rr := []) C rfl (k_isP_recv hPp2) rfl (c_X7_fails l hZ hI h0 aS aZ aV aN aU aD (upd fd 0 (nI 0)) hh ([(h0, .inr (6, [.int (nI 0), .ref aS, .ref aZ, .ref aV, .int (fd 4), .ref aN, .int (fd 6), .ref aU, .int (fd 8), .int (fd 9), .int (fd 10), .ref aD, .int (fd 12), .int (fd 13), .int (fd 14), .long hh]))]) hPp2 (nI 1)) gX7_set_X7_fails rfl rfl rfl (by decide +kernel) B.1 ⟨Nat.le_of_ble_eq_true rfl, Nat.le_of_ble_eq_true rfl⟩ rfl rfl (Nat.le_of_ble_eq_true rfl) dX7_set_14 ⟨Nat.le_of_ble_eq_true rfl, Nat.le_of_ble_eq_true rfl⟩ [0] [] (by decide : ([0] ++ ([] : List Nat)).Perm (List.range 1)) rfl rfl 17 rfl (fun v0 R0 t0 ht0 hp0 => ?_)
  obtain ⟨rfl, w_14, hw_14, rfl⟩ := hp0
  refine q_eqs (st' := [.int (nI 0)]) rfl ?_
  refine q_eqR (Rs' := [w_14]) rfl ?_
  exact q_iret C B dX7_set_17 rfl rfl (fun t0 ht0 => ⟨rfl, _, hw_14, by first | rfl | simp⟩)

set_option maxHeartbeats 400000 in
set_option maxRecDepth 100000 in
theorem c_X7_set_b (l : Launch) {D : va_G} {tys : List (ClassId × FieldType)} {Z : (Nat → Prop) → State → Heap → Prop} (hZ : q_St Z) {cI : ClassId} (hI : tys[0]? = some (cI, .int)) (h0 : Nat) (aS : Nat) (aZ : Nat) (aV : Nat) (aN : Nat) (aU : Nat) (aD : Nat) (fd : Nat → Int32) (hh : Int64) (wP : va_W) (hP : k_isP cI h0 aS aZ aV aN aU aD fd hh wP) (bx : k_Bx) (at0 : Nat) (ln : List (Nat × Nat)) (sc : Nat → Int32) (wQ : va_W) (hQ : k_isQ cI aS bx at0 ln sc wQ) (c : Nat) (hc : c < 12) (hw : ¬ k_wn bx ln sc c = 0) : q_Ct l D tys Z yX7_set wsX7_set ({ frames := 7, cells := 0, slots := 0, locals := 222 } : Room) 0 0 [.ref h0, .int (nI c)] [wP, wQ] (fun v0 R0 _ => v0 = some (.int (nI 0)) ∧ ∃ wP', k_isP cI h0 aS aZ aV aN aU aD (upd (upd fd 0 (nI 0)) 0 (nI 2)) hh wP' ∧ R0 = [wP', wQ]) := by
  have hcI := hI
  refine q_ct (cc := cX7_set) (maxL := 2) (ret := (some .int)) (own := RX7) (by decide) rfl hZ (Nat.le_of_ble_eq_true rfl) rfl ?_
  intro p9 e9 R s9 m9 args below meth c9 A Q C B
  have hts := C.2.2.2.2.1
  have hinX7 : ∀ w ∈ u_ws RX7 TX7 16, w ∈ wsX7_set := by decide +kernel
  have f28 := hts (.fieldLink RX7 28 "SortCasesModel" "thrown" "I") (by decide +kernel)
  refine q_eqL (L' := [(0, .ref h0), (1, .int (nI c))]) rfl ?_
  refine q_aload_n C dX7_set_0 1 0 rfl rfl ?_
  refine q_iconst (v := nI 0) C dX7_set_1 2 rfl (by decide) ?_
  obtain rfl := hP
  have hPo1 : k_isP cI h0 aS aZ aV aN aU aD fd hh [(h0, .inr (6, [.int (fd 0), .ref aS, .ref aZ, .ref aV, .int (fd 4), .ref aN, .int (fd 6), .ref aU, .int (fd 8), .int (fd 9), .int (fd 10), .ref aD, .int (fd 12), .int (fd 13), .int (fd 14), .long hh]))] := rfl
  refine q_put (k := 0) (j := 0) (f := 0) C hinX7 tyX7 tyX7_ok nmX7 f28 (fun _ h => h) (by decide) rfl rfl (tyX7_ok 0 (by decide)) rfl rfl dX7_set_2 5 rfl rfl rfl (Nat.le_of_ble_eq_true rfl) [[(h0, .inr (6, [.int (nI 0), .ref aS, .ref aZ, .ref aV, .int (fd 4), .ref aN, .int (fd 6), .ref aU, .int (fd 8), .int (fd 9), .int (fd 10), .ref aD, .int (fd 12), .int (fd 13), .int (fd 14), .long hh]))], wQ] rfl ?_
  have hPp2 : k_isP cI h0 aS aZ aV aN aU aD (upd fd 0 (nI 0)) hh [(h0, .inr (6, [.int (nI 0), .ref aS, .ref aZ, .ref aV, .int (fd 4), .ref aN, .int (fd 6), .ref aU, .int (fd 8), .int (fd 9), .int (fd 10), .ref aD, .int (fd 12), .int (fd 13), .int (fd 14), .long hh]))] := rfl
  refine q_iload_n C dX7_set_5 6 1 rfl rfl ?_
  refine q_callS (n := 1) (rest := []) (Rr := [[(h0, .inr (6, [.int (nI 0), .ref aS, .ref aZ, .ref aV, .int (fd 4), .ref aN, .int (fd 6), .ref aU, .int (fd 8), .int (fd 9), .int (fd 10), .ref aD, .int (fd 12), .int (fd 13), .int (fd 14), .long hh]))], wQ]) C (c_X7_isBox_t l hZ hI (nI c) (k_b12 (by omega))) gX7_set_X7_isBox rfl rfl rfl (by decide +kernel) B.1 ⟨Nat.le_of_ble_eq_true rfl, Nat.le_of_ble_eq_true rfl⟩ rfl rfl (Nat.le_of_ble_eq_true rfl) dX7_set_6 ⟨Nat.le_of_ble_eq_true rfl, Nat.le_of_ble_eq_true rfl⟩ [] [0, 1] (by decide : ([] ++ ([0, 1] : List Nat)).Perm (List.range 2)) rfl rfl 9 rfl (fun v0 R0 t0 ht0 hp0 => ?_)
  obtain ⟨rfl, rfl⟩ := hp0
  refine q_eqs (st' := [.int (nI 1)]) rfl ?_
  refine q_eqR (Rs' := [[(h0, .inr (6, [.int (nI 0), .ref aS, .ref aZ, .ref aV, .int (fd 4), .ref aN, .int (fd 6), .ref aU, .int (fd 8), .int (fd 9), .int (fd 10), .ref aD, .int (fd 12), .int (fd 13), .int (fd 14), .long hh]))], wQ]) rfl ?_
  refine q_if_ne C dX7_set_9 12 18 rfl (by decide) (q_eq0 (by omega)) (fun h9 => ?_) (fun h9 => False.elim (by first | omega | simp_all))
  refine q_aload_n C dX7_set_18 19 0 rfl rfl ?_
  refine q_iload_n C dX7_set_19 20 1 rfl rfl ?_
  refine q_callV (k := 0) (ci := 6) (n := 1) (rest := []) (Rr := []) C rfl (k_isP_recv hPp2) rfl (c_X7_refusesLetter l hZ hI h0 aS aZ aV aN aU aD (upd fd 0 (nI 0)) hh ([(h0, .inr (6, [.int (nI 0), .ref aS, .ref aZ, .ref aV, .int (fd 4), .ref aN, .int (fd 6), .ref aU, .int (fd 8), .int (fd 9), .int (fd 10), .ref aD, .int (fd 12), .int (fd 13), .int (fd 14), .long hh]))]) hPp2 bx at0 ln sc wQ hQ c (by omega)) gX7_set_X7_refusesLetter rfl rfl rfl (by decide +kernel) B.1 ⟨Nat.le_of_ble_eq_true rfl, Nat.le_of_ble_eq_true rfl⟩ rfl rfl (Nat.le_of_ble_eq_true rfl) dX7_set_20 ⟨Nat.le_of_ble_eq_true rfl, Nat.le_of_ble_eq_true rfl⟩ [0, 1] [] (by decide : ([0, 1] ++ ([] : List Nat)).Perm (List.range 2)) rfl rfl 23 rfl (fun v0 R0 t0 ht0 hp0 => ?_)
  obtain ⟨rfl, rfl⟩ := hp0
  refine q_eqs (st' := [.int (nI (k_wn bx ln sc c))]) rfl ?_
  refine q_eqR (Rs' := [[(h0, .inr (6, [.int (nI 0), .ref aS, .ref aZ, .ref aV, .int (fd 4), .ref aN, .int (fd 6), .ref aU, .int (fd 8), .int (fd 9), .int (fd 10), .ref aD, .int (fd 12), .int (fd 13), .int (fd 14), .long hh]))], wQ]) rfl ?_
  have hw20 : k_wn bx ln sc c ≤ 2 := k_wn_le _ _ _ _
  refine q_if_eq C dX7_set_23 26 32 rfl (by decide) (q_eq0 (by omega)) (fun h23 => False.elim (by first | omega | simp_all)) (fun h23 => ?_)
  refine q_aload_n C dX7_set_26 27 0 rfl rfl ?_
  refine q_iconst (v := nI 2) C dX7_set_27 28 rfl (by decide) ?_
  refine q_callV (k := 0) (ci := 6) (n := 1) (rest := []) (Rr := [wQ]) C rfl (k_isP_recv hPp2) rfl (c_X7_fails l hZ hI h0 aS aZ aV aN aU aD (upd fd 0 (nI 0)) hh ([(h0, .inr (6, [.int (nI 0), .ref aS, .ref aZ, .ref aV, .int (fd 4), .ref aN, .int (fd 6), .ref aU, .int (fd 8), .int (fd 9), .int (fd 10), .ref aD, .int (fd 12), .int (fd 13), .int (fd 14), .long hh]))]) hPp2 (nI 2)) gX7_set_X7_fails rfl rfl rfl (by decide +kernel) B.1 ⟨Nat.le_of_ble_eq_true rfl, Nat.le_of_ble_eq_true rfl⟩ rfl rfl (Nat.le_of_ble_eq_true rfl) dX7_set_28 ⟨Nat.le_of_ble_eq_true rfl, Nat.le_of_ble_eq_true rfl⟩ [0] [1] (by decide : ([0] ++ ([1] : List Nat)).Perm (List.range 2)) rfl rfl 31 rfl (fun v0 R0 t0 ht0 hp0 => ?_)
  obtain ⟨rfl, w_28, hw_28, rfl⟩ := hp0
  refine q_eqs (st' := [.int (nI 0)]) rfl ?_
  refine q_eqR (Rs' := [w_28, wQ]) rfl ?_
  exact q_iret C B dX7_set_31 rfl rfl (fun t0 ht0 => ⟨rfl, _, hw_28, by first | rfl | simp⟩)

set_option maxHeartbeats 400000 in
set_option maxRecDepth 100000 in
theorem c_X7_set_c (l : Launch) {D : va_G} {tys : List (ClassId × FieldType)} {Z : (Nat → Prop) → State → Heap → Prop} (hZ : q_St Z) {cI : ClassId} (hI : tys[0]? = some (cI, .int)) (h0 : Nat) (aS : Nat) (aZ : Nat) (aV : Nat) (aN : Nat) (aU : Nat) (aD : Nat) (fd : Nat → Int32) (hh : Int64) (wP : va_W) (hP : k_isP cI h0 aS aZ aV aN aU aD fd hh wP) (bx : k_Bx) (at0 : Nat) (ln : List (Nat × Nat)) (sc : Nat → Int32) (wQ : va_W) (hQ : k_isQ cI aS bx at0 ln sc wQ) (sv : List k_S) (wV : va_W) (hV : k_isV cI aV sv wV) (c : Nat) (hc : c < 12) (hw0 : k_wn bx ln sc c = 0) (h4 : fd 4 = nI sv.length) (hl40 : ln.length < 40) (hs1 : sc 1 = nI (k_n1 sc)) (hs9 : k_n1 sc ≤ 9) : q_Ct l D tys Z yX7_set wsX7_set ({ frames := 7, cells := 0, slots := 0, locals := 222 } : Room) 0 0 [.ref h0, .int (nI c)] [wP, wQ, wV] (fun v0 R0 _ => v0 = some (.int (nI (k_x bx c))) ∧ ∃ wP', k_isP cI h0 aS aZ aV aN aU aD (upd (upd fd 0 (nI 0)) 4 (nI (k_sav sv (bx, at0, ln, sc)).length)) hh wP' ∧ ∃ wQ', k_isQ cI aS ((k_set (bx, at0, ln, sc) c).1) ((k_set (bx, at0, ln, sc) c).2.1) (ln ++ [(k_x bx c, c)]) ((k_set (bx, at0, ln, sc) c).2.2.2) wQ' ∧ ∃ wV', k_isV cI aV (k_sav sv (bx, at0, ln, sc)) wV' ∧ R0 = [wP', wQ', wV']) := by
  have hcI := hI
  refine q_ct (cc := cX7_set) (maxL := 2) (ret := (some .int)) (own := RX7) (by decide) rfl hZ (Nat.le_of_ble_eq_true rfl) rfl ?_
  intro p9 e9 R s9 m9 args below meth c9 A Q C B
  have hts := C.2.2.2.2.1
  have hinX7 : ∀ w ∈ u_ws RX7 TX7 16, w ∈ wsX7_set := by decide +kernel
  have f28 := hts (.fieldLink RX7 28 "SortCasesModel" "thrown" "I") (by decide +kernel)
  refine q_eqL (L' := [(0, .ref h0), (1, .int (nI c))]) rfl ?_
  have he0 := (k_wn_inv hw0).1
  refine q_aload_n C dX7_set_0 1 0 rfl rfl ?_
  refine q_iconst (v := nI 0) C dX7_set_1 2 rfl (by decide) ?_
  obtain rfl := hP
  have hPo1 : k_isP cI h0 aS aZ aV aN aU aD fd hh [(h0, .inr (6, [.int (fd 0), .ref aS, .ref aZ, .ref aV, .int (fd 4), .ref aN, .int (fd 6), .ref aU, .int (fd 8), .int (fd 9), .int (fd 10), .ref aD, .int (fd 12), .int (fd 13), .int (fd 14), .long hh]))] := rfl
  refine q_put (k := 0) (j := 0) (f := 0) C hinX7 tyX7 tyX7_ok nmX7 f28 (fun _ h => h) (by decide) rfl rfl (tyX7_ok 0 (by decide)) rfl rfl dX7_set_2 5 rfl rfl rfl (Nat.le_of_ble_eq_true rfl) [[(h0, .inr (6, [.int (nI 0), .ref aS, .ref aZ, .ref aV, .int (fd 4), .ref aN, .int (fd 6), .ref aU, .int (fd 8), .int (fd 9), .int (fd 10), .ref aD, .int (fd 12), .int (fd 13), .int (fd 14), .long hh]))], wQ, wV] rfl ?_
  have hPp2 : k_isP cI h0 aS aZ aV aN aU aD (upd fd 0 (nI 0)) hh [(h0, .inr (6, [.int (nI 0), .ref aS, .ref aZ, .ref aV, .int (fd 4), .ref aN, .int (fd 6), .ref aU, .int (fd 8), .int (fd 9), .int (fd 10), .ref aD, .int (fd 12), .int (fd 13), .int (fd 14), .long hh]))] := rfl
  refine q_iload_n C dX7_set_5 6 1 rfl rfl ?_
  refine q_callS (n := 1) (rest := []) (Rr := [[(h0, .inr (6, [.int (nI 0), .ref aS, .ref aZ, .ref aV, .int (fd 4), .ref aN, .int (fd 6), .ref aU, .int (fd 8), .int (fd 9), .int (fd 10), .ref aD, .int (fd 12), .int (fd 13), .int (fd 14), .long hh]))], wQ, wV]) C (c_X7_isBox_t l hZ hI (nI c) (k_b12 (by omega))) gX7_set_X7_isBox rfl rfl rfl (by decide +kernel) B.1 ⟨Nat.le_of_ble_eq_true rfl, Nat.le_of_ble_eq_true rfl⟩ rfl rfl (Nat.le_of_ble_eq_true rfl) dX7_set_6 ⟨Nat.le_of_ble_eq_true rfl, Nat.le_of_ble_eq_true rfl⟩ [] [0, 1, 2] (by decide : ([] ++ ([0, 1, 2] : List Nat)).Perm (List.range 3)) rfl rfl 9 rfl (fun v0 R0 t0 ht0 hp0 => ?_)
  obtain ⟨rfl, rfl⟩ := hp0
  refine q_eqs (st' := [.int (nI 1)]) rfl ?_
  refine q_eqR (Rs' := [[(h0, .inr (6, [.int (nI 0), .ref aS, .ref aZ, .ref aV, .int (fd 4), .ref aN, .int (fd 6), .ref aU, .int (fd 8), .int (fd 9), .int (fd 10), .ref aD, .int (fd 12), .int (fd 13), .int (fd 14), .long hh]))], wQ, wV]) rfl ?_
  refine q_if_ne C dX7_set_9 12 18 rfl (by decide) (q_eq0 (by omega)) (fun h9 => ?_) (fun h9 => False.elim (by first | omega | simp_all))
  refine q_aload_n C dX7_set_18 19 0 rfl rfl ?_
  refine q_iload_n C dX7_set_19 20 1 rfl rfl ?_
  refine q_callV (k := 0) (ci := 6) (n := 1) (rest := []) (Rr := [wV]) C rfl (k_isP_recv hPp2) rfl (c_X7_refusesLetter l hZ hI h0 aS aZ aV aN aU aD (upd fd 0 (nI 0)) hh ([(h0, .inr (6, [.int (nI 0), .ref aS, .ref aZ, .ref aV, .int (fd 4), .ref aN, .int (fd 6), .ref aU, .int (fd 8), .int (fd 9), .int (fd 10), .ref aD, .int (fd 12), .int (fd 13), .int (fd 14), .long hh]))]) hPp2 bx at0 ln sc wQ hQ c (by omega)) gX7_set_X7_refusesLetter rfl rfl rfl (by decide +kernel) B.1 ⟨Nat.le_of_ble_eq_true rfl, Nat.le_of_ble_eq_true rfl⟩ rfl rfl (Nat.le_of_ble_eq_true rfl) dX7_set_20 ⟨Nat.le_of_ble_eq_true rfl, Nat.le_of_ble_eq_true rfl⟩ [0, 1] [2] (by decide : ([0, 1] ++ ([2] : List Nat)).Perm (List.range 3)) rfl rfl 23 rfl (fun v0 R0 t0 ht0 hp0 => ?_)
  obtain ⟨rfl, rfl⟩ := hp0
  refine q_eqs (st' := [.int (nI (k_wn bx ln sc c))]) rfl ?_
  refine q_eqR (Rs' := [[(h0, .inr (6, [.int (nI 0), .ref aS, .ref aZ, .ref aV, .int (fd 4), .ref aN, .int (fd 6), .ref aU, .int (fd 8), .int (fd 9), .int (fd 10), .ref aD, .int (fd 12), .int (fd 13), .int (fd 14), .long hh]))], wQ, wV]) rfl ?_
  have hw20 : k_wn bx ln sc c ≤ 2 := k_wn_le _ _ _ _
  refine q_if_eq C dX7_set_23 26 32 rfl (by decide) (q_eq0 (by omega)) (fun h23 => ?_) (fun h23 => False.elim (by first | omega | simp_all))
  refine q_aload_n C dX7_set_32 33 0 rfl rfl ?_
  refine q_callV (k := 0) (ci := 6) (n := 0) (rest := []) (Rr := []) C rfl (k_isP_recv hPp2) rfl (c_X7_saves l hZ hI h0 aS aZ aV aN aU aD (upd fd 0 (nI 0)) hh ([(h0, .inr (6, [.int (nI 0), .ref aS, .ref aZ, .ref aV, .int (fd 4), .ref aN, .int (fd 6), .ref aU, .int (fd 8), .int (fd 9), .int (fd 10), .ref aD, .int (fd 12), .int (fd 13), .int (fd 14), .long hh]))]) hPp2 bx at0 ln sc wQ hQ sv wV hV h4) gX7_set_X7_saves rfl rfl rfl (by decide +kernel) B.1 ⟨Nat.le_of_ble_eq_true rfl, Nat.le_of_ble_eq_true rfl⟩ rfl rfl (Nat.le_of_ble_eq_true rfl) dX7_set_33 ⟨Nat.le_of_ble_eq_true rfl, Nat.le_of_ble_eq_true rfl⟩ [0, 1, 2] [] (by decide : ([0, 1, 2] ++ ([] : List Nat)).Perm (List.range 3)) rfl rfl 36 rfl (fun v0 R0 t0 ht0 hp0 => ?_)
  obtain ⟨rfl, wP_33, hwP_33, wV_33, hwV_33, rfl⟩ := hp0
  refine q_eqs (st' := []) rfl ?_
  refine q_eqR (Rs' := [wP_33, wQ, wV_33]) rfl ?_
  refine q_aload_n C dX7_set_36 37 0 rfl rfl ?_
  refine q_iload_n C dX7_set_37 38 1 rfl rfl ?_
  refine q_callV (k := 0) (ci := 6) (n := 1) (rest := []) (Rr := [wV_33]) C rfl (k_isP_recv hwP_33) rfl (c_X7_sets l hZ hI h0 aS aZ aV aN aU aD (upd (upd fd 0 (nI 0)) 4 (nI (k_sav sv (bx, at0, ln, sc)).length)) hh wP_33 hwP_33 bx at0 ln sc wQ hQ c (by omega) (by omega) (by omega) (by omega) (by omega)) gX7_set_X7_sets rfl rfl rfl (by decide +kernel) B.1 ⟨Nat.le_of_ble_eq_true rfl, Nat.le_of_ble_eq_true rfl⟩ rfl rfl (Nat.le_of_ble_eq_true rfl) dX7_set_38 ⟨Nat.le_of_ble_eq_true rfl, Nat.le_of_ble_eq_true rfl⟩ [0, 1] [2] (by decide : ([0, 1] ++ ([2] : List Nat)).Perm (List.range 3)) rfl rfl 41 rfl (fun v0 R0 t0 ht0 hp0 => ?_)
  obtain ⟨rfl, wQ_38, hwQ_38, rfl⟩ := hp0
  refine q_eqs (st' := [.int (nI (k_x bx c))]) rfl ?_
  refine q_eqR (Rs' := [wP_33, wQ_38, wV_33]) rfl ?_
  have ht38 : k_x bx c < 12 := k_x_lt hQ.2.1 (by omega) (by omega)
  exact q_iret C B dX7_set_41 rfl rfl (fun t0 ht0 => ⟨rfl, _, hwP_33, _, hwQ_38, _, hwV_33, by first | rfl | simp⟩)

set_option maxHeartbeats 400000 in
set_option maxRecDepth 100000 in
theorem c_X7_idle_a (l : Launch) {D : va_G} {tys : List (ClassId × FieldType)} {Z : (Nat → Prop) → State → Heap → Prop} (hZ : q_St Z) {cI : ClassId} (hI : tys[0]? = some (cI, .int)) (h0 : Nat) (aS : Nat) (aZ : Nat) (aV : Nat) (aN : Nat) (aU : Nat) (aD : Nat) (fd : Nat → Int32) (hh : Int64) (w : va_W) (h : k_isP cI h0 aS aZ aV aN aU aD fd hh w) (v : Int32) (hbad : ¬ (nI 1 ≤ v ∧ v ≤ nI 99)) : q_Ct l D tys Z yX7_idle wsX7_idle ({ frames := 7, cells := 0, slots := 0, locals := 222 } : Room) 0 0 [.ref h0, .int v] [w] (fun v0 R0 _ => v0 = some (.int (nI 0)) ∧ ∃ w', k_isP cI h0 aS aZ aV aN aU aD (upd (upd fd 0 (nI 0)) 0 (nI 1)) hh w' ∧ R0 = [w']) := by
  have hcI := hI
  refine q_ct (cc := cX7_idle) (maxL := 2) (ret := (some .int)) (own := RX7) (by decide) rfl hZ (Nat.le_of_ble_eq_true rfl) rfl ?_
  intro p9 e9 R s9 m9 args below meth c9 A Q C B
  have hts := C.2.2.2.2.1
  have hinX7 : ∀ w ∈ u_ws RX7 TX7 16, w ∈ wsX7_idle := by decide +kernel
  have f28 := hts (.fieldLink RX7 28 "SortCasesModel" "thrown" "I") (by decide +kernel)
  refine q_eqL (L' := [(0, .ref h0), (1, .int v)]) rfl ?_
  refine q_aload_n C dX7_idle_0 1 0 rfl rfl ?_
  refine q_iconst (v := nI 0) C dX7_idle_1 2 rfl (by decide) ?_
  obtain rfl := h
  have hPo1 : k_isP cI h0 aS aZ aV aN aU aD fd hh [(h0, .inr (6, [.int (fd 0), .ref aS, .ref aZ, .ref aV, .int (fd 4), .ref aN, .int (fd 6), .ref aU, .int (fd 8), .int (fd 9), .int (fd 10), .ref aD, .int (fd 12), .int (fd 13), .int (fd 14), .long hh]))] := rfl
  refine q_put (k := 0) (j := 0) (f := 0) C hinX7 tyX7 tyX7_ok nmX7 f28 (fun _ h => h) (by decide) rfl rfl (tyX7_ok 0 (by decide)) rfl rfl dX7_idle_2 5 rfl rfl rfl (Nat.le_of_ble_eq_true rfl) [[(h0, .inr (6, [.int (nI 0), .ref aS, .ref aZ, .ref aV, .int (fd 4), .ref aN, .int (fd 6), .ref aU, .int (fd 8), .int (fd 9), .int (fd 10), .ref aD, .int (fd 12), .int (fd 13), .int (fd 14), .long hh]))]] rfl ?_
  have hPp2 : k_isP cI h0 aS aZ aV aN aU aD (upd fd 0 (nI 0)) hh [(h0, .inr (6, [.int (nI 0), .ref aS, .ref aZ, .ref aV, .int (fd 4), .ref aN, .int (fd 6), .ref aU, .int (fd 8), .int (fd 9), .int (fd 10), .ref aD, .int (fd 12), .int (fd 13), .int (fd 14), .long hh]))] := rfl
  refine q_iload_n C dX7_idle_5 6 1 rfl rfl ?_
  refine q_iconst (v := nI 1) C dX7_idle_6 7 rfl (by decide) ?_
  refine q_bipush (v := nI 99) C dX7_idle_7 9 rfl (by decide) ?_
  refine q_callS (n := 3) (rest := []) (Rr := [[(h0, .inr (6, [.int (nI 0), .ref aS, .ref aZ, .ref aV, .int (fd 4), .ref aN, .int (fd 6), .ref aU, .int (fd 8), .int (fd 9), .int (fd 10), .ref aD, .int (fd 12), .int (fd 13), .int (fd 14), .long hh]))]]) C (c_X7_in_f l hZ hI v (nI 1) (nI 99) hbad) gX7_idle_X7_in rfl rfl rfl (by decide +kernel) B.1 ⟨Nat.le_of_ble_eq_true rfl, Nat.le_of_ble_eq_true rfl⟩ rfl rfl (Nat.le_of_ble_eq_true rfl) dX7_idle_9 ⟨Nat.le_of_ble_eq_true rfl, Nat.le_of_ble_eq_true rfl⟩ [] [0] (by decide : ([] ++ ([0] : List Nat)).Perm (List.range 1)) rfl rfl 12 rfl (fun v0 R0 t0 ht0 hp0 => ?_)
  obtain ⟨rfl, rfl⟩ := hp0
  refine q_eqs (st' := [.int (nI 0)]) rfl ?_
  refine q_eqR (Rs' := [[(h0, .inr (6, [.int (nI 0), .ref aS, .ref aZ, .ref aV, .int (fd 4), .ref aN, .int (fd 6), .ref aU, .int (fd 8), .int (fd 9), .int (fd 10), .ref aD, .int (fd 12), .int (fd 13), .int (fd 14), .long hh]))]]) rfl ?_
  refine q_if_ne C dX7_idle_12 15 21 rfl (by decide) (q_eq0 (by omega)) (fun h12 => False.elim (by first | omega | simp_all)) (fun h12 => ?_)
  refine q_aload_n C dX7_idle_15 16 0 rfl rfl ?_
  refine q_iconst (v := nI 1) C dX7_idle_16 17 rfl (by decide) ?_
  refine q_callV (k := 0) (ci := 6) (n := 1) (rest := []) (Rr := []) C rfl (k_isP_recv hPp2) rfl (c_X7_fails l hZ hI h0 aS aZ aV aN aU aD (upd fd 0 (nI 0)) hh ([(h0, .inr (6, [.int (nI 0), .ref aS, .ref aZ, .ref aV, .int (fd 4), .ref aN, .int (fd 6), .ref aU, .int (fd 8), .int (fd 9), .int (fd 10), .ref aD, .int (fd 12), .int (fd 13), .int (fd 14), .long hh]))]) hPp2 (nI 1)) gX7_idle_X7_fails rfl rfl rfl (by decide +kernel) B.1 ⟨Nat.le_of_ble_eq_true rfl, Nat.le_of_ble_eq_true rfl⟩ rfl rfl (Nat.le_of_ble_eq_true rfl) dX7_idle_17 ⟨Nat.le_of_ble_eq_true rfl, Nat.le_of_ble_eq_true rfl⟩ [0] [] (by decide : ([0] ++ ([] : List Nat)).Perm (List.range 1)) rfl rfl 20 rfl (fun v0 R0 t0 ht0 hp0 => ?_)
  obtain ⟨rfl, w_17, hw_17, rfl⟩ := hp0
  refine q_eqs (st' := [.int (nI 0)]) rfl ?_
  refine q_eqR (Rs' := [w_17]) rfl ?_
  exact q_iret C B dX7_idle_20 rfl rfl (fun t0 ht0 => ⟨rfl, _, hw_17, by first | rfl | simp⟩)

set_option maxHeartbeats 400000 in
set_option maxRecDepth 100000 in
theorem c_X7_idle_b (l : Launch) {D : va_G} {tys : List (ClassId × FieldType)} {Z : (Nat → Prop) → State → Heap → Prop} (hZ : q_St Z) {cI : ClassId} (hI : tys[0]? = some (cI, .int)) (h0 : Nat) (aS : Nat) (aZ : Nat) (aV : Nat) (aN : Nat) (aU : Nat) (aD : Nat) (fd : Nat → Int32) (hh : Int64) (wP : va_W) (hP : k_isP cI h0 aS aZ aV aN aU aD fd hh wP) (bx : k_Bx) (at0 : Nat) (ln : List (Nat × Nat)) (sc : Nat → Int32) (wQ : va_W) (hQ : k_isQ cI aS bx at0 ln sc wQ) (sv : List k_S) (wV : va_W) (hV : k_isV cI aV sv wV) (n : Nat) (hn1 : 1 ≤ n) (hn : n ≤ 99) (h4 : fd 4 = nI sv.length) : q_Ct l D tys Z yX7_idle wsX7_idle ({ frames := 7, cells := 0, slots := 0, locals := 222 } : Room) 0 0 [.ref h0, .int (nI n)] [wP, wQ, wV] (fun v0 R0 _ => v0 = some (.int (nI (k_cnt (k_bm bx at0 (-1)) n))) ∧ ∃ wP', k_isP cI h0 aS aZ aV aN aU aD (upd (upd fd 0 (nI 0)) 4 (nI (k_sav sv (bx, at0, ln, sc)).length)) hh wP' ∧ ∃ wQ', k_isQ cI aS ((k_bs bx at0 (-1) n).1) ((k_bs bx at0 (-1) n).2) ln (k_psc bx at0 (upd sc 3 (-1)) n) wQ' ∧ ∃ wV', k_isV cI aV (k_sav sv (bx, at0, ln, sc)) wV' ∧ R0 = [wP', wQ', wV']) := by
  have hcI := hI
  refine q_ct (cc := cX7_idle) (maxL := 2) (ret := (some .int)) (own := RX7) (by decide) rfl hZ (Nat.le_of_ble_eq_true rfl) rfl ?_
  intro p9 e9 R s9 m9 args below meth c9 A Q C B
  have hts := C.2.2.2.2.1
  have hinX7 : ∀ w ∈ u_ws RX7 TX7 16, w ∈ wsX7_idle := by decide +kernel
  have f28 := hts (.fieldLink RX7 28 "SortCasesModel" "thrown" "I") (by decide +kernel)
  refine q_eqL (L' := [(0, .ref h0), (1, .int (nI n))]) rfl ?_
  refine q_aload_n C dX7_idle_0 1 0 rfl rfl ?_
  refine q_iconst (v := nI 0) C dX7_idle_1 2 rfl (by decide) ?_
  obtain rfl := hP
  have hPo1 : k_isP cI h0 aS aZ aV aN aU aD fd hh [(h0, .inr (6, [.int (fd 0), .ref aS, .ref aZ, .ref aV, .int (fd 4), .ref aN, .int (fd 6), .ref aU, .int (fd 8), .int (fd 9), .int (fd 10), .ref aD, .int (fd 12), .int (fd 13), .int (fd 14), .long hh]))] := rfl
  refine q_put (k := 0) (j := 0) (f := 0) C hinX7 tyX7 tyX7_ok nmX7 f28 (fun _ h => h) (by decide) rfl rfl (tyX7_ok 0 (by decide)) rfl rfl dX7_idle_2 5 rfl rfl rfl (Nat.le_of_ble_eq_true rfl) [[(h0, .inr (6, [.int (nI 0), .ref aS, .ref aZ, .ref aV, .int (fd 4), .ref aN, .int (fd 6), .ref aU, .int (fd 8), .int (fd 9), .int (fd 10), .ref aD, .int (fd 12), .int (fd 13), .int (fd 14), .long hh]))], wQ, wV] rfl ?_
  have hPp2 : k_isP cI h0 aS aZ aV aN aU aD (upd fd 0 (nI 0)) hh [(h0, .inr (6, [.int (nI 0), .ref aS, .ref aZ, .ref aV, .int (fd 4), .ref aN, .int (fd 6), .ref aU, .int (fd 8), .int (fd 9), .int (fd 10), .ref aD, .int (fd 12), .int (fd 13), .int (fd 14), .long hh]))] := rfl
  refine q_iload_n C dX7_idle_5 6 1 rfl rfl ?_
  refine q_iconst (v := nI 1) C dX7_idle_6 7 rfl (by decide) ?_
  refine q_bipush (v := nI 99) C dX7_idle_7 9 rfl (by decide) ?_
  refine q_callS (n := 3) (rest := []) (Rr := [[(h0, .inr (6, [.int (nI 0), .ref aS, .ref aZ, .ref aV, .int (fd 4), .ref aN, .int (fd 6), .ref aU, .int (fd 8), .int (fd 9), .int (fd 10), .ref aD, .int (fd 12), .int (fd 13), .int (fd 14), .long hh]))], wQ, wV]) C (c_X7_in_t l hZ hI (nI n) (nI 1) (nI 99) (k_in2 (by omega) (by omega) (by omega))) gX7_idle_X7_in rfl rfl rfl (by decide +kernel) B.1 ⟨Nat.le_of_ble_eq_true rfl, Nat.le_of_ble_eq_true rfl⟩ rfl rfl (Nat.le_of_ble_eq_true rfl) dX7_idle_9 ⟨Nat.le_of_ble_eq_true rfl, Nat.le_of_ble_eq_true rfl⟩ [] [0, 1, 2] (by decide : ([] ++ ([0, 1, 2] : List Nat)).Perm (List.range 3)) rfl rfl 12 rfl (fun v0 R0 t0 ht0 hp0 => ?_)
  obtain ⟨rfl, rfl⟩ := hp0
  refine q_eqs (st' := [.int (nI 1)]) rfl ?_
  refine q_eqR (Rs' := [[(h0, .inr (6, [.int (nI 0), .ref aS, .ref aZ, .ref aV, .int (fd 4), .ref aN, .int (fd 6), .ref aU, .int (fd 8), .int (fd 9), .int (fd 10), .ref aD, .int (fd 12), .int (fd 13), .int (fd 14), .long hh]))], wQ, wV]) rfl ?_
  refine q_if_ne C dX7_idle_12 15 21 rfl (by decide) (q_eq0 (by omega)) (fun h12 => ?_) (fun h12 => False.elim (by first | omega | simp_all))
  refine q_aload_n C dX7_idle_21 22 0 rfl rfl ?_
  refine q_callV (k := 0) (ci := 6) (n := 0) (rest := []) (Rr := []) C rfl (k_isP_recv hPp2) rfl (c_X7_saves l hZ hI h0 aS aZ aV aN aU aD (upd fd 0 (nI 0)) hh ([(h0, .inr (6, [.int (nI 0), .ref aS, .ref aZ, .ref aV, .int (fd 4), .ref aN, .int (fd 6), .ref aU, .int (fd 8), .int (fd 9), .int (fd 10), .ref aD, .int (fd 12), .int (fd 13), .int (fd 14), .long hh]))]) hPp2 bx at0 ln sc wQ hQ sv wV hV h4) gX7_idle_X7_saves rfl rfl rfl (by decide +kernel) B.1 ⟨Nat.le_of_ble_eq_true rfl, Nat.le_of_ble_eq_true rfl⟩ rfl rfl (Nat.le_of_ble_eq_true rfl) dX7_idle_22 ⟨Nat.le_of_ble_eq_true rfl, Nat.le_of_ble_eq_true rfl⟩ [0, 1, 2] [] (by decide : ([0, 1, 2] ++ ([] : List Nat)).Perm (List.range 3)) rfl rfl 25 rfl (fun v0 R0 t0 ht0 hp0 => ?_)
  obtain ⟨rfl, wP_22, hwP_22, wV_22, hwV_22, rfl⟩ := hp0
  refine q_eqs (st' := []) rfl ?_
  refine q_eqR (Rs' := [wP_22, wQ, wV_22]) rfl ?_
  refine q_aload_n C dX7_idle_25 26 0 rfl rfl ?_
  refine q_iload_n C dX7_idle_26 27 1 rfl rfl ?_
  refine q_callV (k := 0) (ci := 6) (n := 1) (rest := []) (Rr := [wV_22]) C rfl (k_isP_recv hwP_22) rfl (c_X7_idles l hZ hI h0 aS aZ aV aN aU aD (upd (upd fd 0 (nI 0)) 4 (nI (k_sav sv (bx, at0, ln, sc)).length)) hh wP_22 hwP_22 bx at0 ln sc wQ hQ n (by omega)) gX7_idle_X7_idles rfl rfl rfl (by decide +kernel) B.1 ⟨Nat.le_of_ble_eq_true rfl, Nat.le_of_ble_eq_true rfl⟩ rfl rfl (Nat.le_of_ble_eq_true rfl) dX7_idle_27 ⟨Nat.le_of_ble_eq_true rfl, Nat.le_of_ble_eq_true rfl⟩ [0, 1] [2] (by decide : ([0, 1] ++ ([2] : List Nat)).Perm (List.range 3)) rfl rfl 30 rfl (fun v0 R0 t0 ht0 hp0 => ?_)
  obtain ⟨rfl, wQ_27, hwQ_27, rfl⟩ := hp0
  refine q_eqs (st' := [.int (nI (k_cnt (k_bm bx at0 (-1)) n))]) rfl ?_
  refine q_eqR (Rs' := [wP_22, wQ_27, wV_22]) rfl ?_
  exact q_iret C B dX7_idle_30 rfl rfl (fun t0 ht0 => ⟨rfl, _, hwP_22, _, hwQ_27, _, hwV_22, by first | rfl | simp⟩)

set_option maxHeartbeats 400000 in
set_option maxRecDepth 100000 in
theorem c_X7_fix_a (l : Launch) {D : va_G} {tys : List (ClassId × FieldType)} {Z : (Nat → Prop) → State → Heap → Prop} (hZ : q_St Z) {cI : ClassId} (hI : tys[0]? = some (cI, .int)) (h0 : Nat) (aS : Nat) (aZ : Nat) (aV : Nat) (aN : Nat) (aU : Nat) (aD : Nat) (fd : Nat → Int32) (hh : Int64) (wP : va_W) (hP : k_isP cI h0 aS aZ aV aN aU aD fd hh wP) (bx : k_Bx) (at0 : Nat) (ln : List (Nat × Nat)) (sc : Nat → Int32) (wQ : va_W) (hQ : k_isQ cI aS bx at0 ln sc wQ) (v : Int32) (hbad : k_has ln v = false) : q_Ct l D tys Z yX7_fix wsX7_fix ({ frames := 4, cells := 0, slots := 0, locals := 132 } : Room) 0 0 [.ref h0, .int v] [wP, wQ] (fun v0 R0 _ => v0 = some (.int (nI 0)) ∧ ∃ wP', k_isP cI h0 aS aZ aV aN aU aD (upd (upd fd 0 (nI 0)) 0 (nI 1)) hh wP' ∧ R0 = [wP', wQ]) := by
  have hcI := hI
  refine q_ct (cc := cX7_fix) (maxL := 2) (ret := (some .int)) (own := RX7) (by decide) rfl hZ (Nat.le_of_ble_eq_true rfl) rfl ?_
  intro p9 e9 R s9 m9 args below meth c9 A Q C B
  have hts := C.2.2.2.2.1
  have hinX7 : ∀ w ∈ u_ws RX7 TX7 16, w ∈ wsX7_fix := by decide +kernel
  have f28 := hts (.fieldLink RX7 28 "SortCasesModel" "thrown" "I") (by decide +kernel)
  refine q_eqL (L' := [(0, .ref h0), (1, .int v)]) rfl ?_
  refine q_aload_n C dX7_fix_0 1 0 rfl rfl ?_
  refine q_iconst (v := nI 0) C dX7_fix_1 2 rfl (by decide) ?_
  obtain rfl := hP
  have hPo1 : k_isP cI h0 aS aZ aV aN aU aD fd hh [(h0, .inr (6, [.int (fd 0), .ref aS, .ref aZ, .ref aV, .int (fd 4), .ref aN, .int (fd 6), .ref aU, .int (fd 8), .int (fd 9), .int (fd 10), .ref aD, .int (fd 12), .int (fd 13), .int (fd 14), .long hh]))] := rfl
  refine q_put (k := 0) (j := 0) (f := 0) C hinX7 tyX7 tyX7_ok nmX7 f28 (fun _ h => h) (by decide) rfl rfl (tyX7_ok 0 (by decide)) rfl rfl dX7_fix_2 5 rfl rfl rfl (Nat.le_of_ble_eq_true rfl) [[(h0, .inr (6, [.int (nI 0), .ref aS, .ref aZ, .ref aV, .int (fd 4), .ref aN, .int (fd 6), .ref aU, .int (fd 8), .int (fd 9), .int (fd 10), .ref aD, .int (fd 12), .int (fd 13), .int (fd 14), .long hh]))], wQ] rfl ?_
  have hPp2 : k_isP cI h0 aS aZ aV aN aU aD (upd fd 0 (nI 0)) hh [(h0, .inr (6, [.int (nI 0), .ref aS, .ref aZ, .ref aV, .int (fd 4), .ref aN, .int (fd 6), .ref aU, .int (fd 8), .int (fd 9), .int (fd 10), .ref aD, .int (fd 12), .int (fd 13), .int (fd 14), .long hh]))] := rfl
  refine q_aload_n C dX7_fix_5 6 0 rfl rfl ?_
  refine q_iload_n C dX7_fix_6 7 1 rfl rfl ?_
  refine q_callV (k := 0) (ci := 6) (n := 1) (rest := []) (Rr := []) C rfl (k_isP_recv hPp2) rfl (c_X7_isPlace l hZ hI h0 aS aZ aV aN aU aD (upd fd 0 (nI 0)) hh ([(h0, .inr (6, [.int (nI 0), .ref aS, .ref aZ, .ref aV, .int (fd 4), .ref aN, .int (fd 6), .ref aU, .int (fd 8), .int (fd 9), .int (fd 10), .ref aD, .int (fd 12), .int (fd 13), .int (fd 14), .long hh]))]) hPp2 bx at0 ln sc wQ hQ v) gX7_fix_X7_isPlace rfl rfl rfl (by decide +kernel) B.1 ⟨Nat.le_of_ble_eq_true rfl, Nat.le_of_ble_eq_true rfl⟩ rfl rfl (Nat.le_of_ble_eq_true rfl) dX7_fix_7 ⟨Nat.le_of_ble_eq_true rfl, Nat.le_of_ble_eq_true rfl⟩ [0, 1] [] (by decide : ([0, 1] ++ ([] : List Nat)).Perm (List.range 2)) rfl rfl 10 rfl (fun v0 R0 t0 ht0 hp0 => ?_)
  obtain ⟨rfl, rfl⟩ := hp0
  refine q_eqs (st' := [.int (q_b (k_has ln v))]) rfl ?_
  refine q_eqR (Rs' := [[(h0, .inr (6, [.int (nI 0), .ref aS, .ref aZ, .ref aV, .int (fd 4), .ref aN, .int (fd 6), .ref aU, .int (fd 8), .int (fd 9), .int (fd 10), .ref aD, .int (fd 12), .int (fd 13), .int (fd 14), .long hh]))], wQ]) rfl ?_
  refine q_if_ne (P := k_has ln v = false) C dX7_fix_10 13 19 rfl (by decide) q_b0 (fun h10 => False.elim (by first | omega | simp_all)) (fun h10 => ?_)
  refine q_aload_n C dX7_fix_13 14 0 rfl rfl ?_
  refine q_iconst (v := nI 1) C dX7_fix_14 15 rfl (by decide) ?_
  refine q_callV (k := 0) (ci := 6) (n := 1) (rest := []) (Rr := [wQ]) C rfl (k_isP_recv hPp2) rfl (c_X7_fails l hZ hI h0 aS aZ aV aN aU aD (upd fd 0 (nI 0)) hh ([(h0, .inr (6, [.int (nI 0), .ref aS, .ref aZ, .ref aV, .int (fd 4), .ref aN, .int (fd 6), .ref aU, .int (fd 8), .int (fd 9), .int (fd 10), .ref aD, .int (fd 12), .int (fd 13), .int (fd 14), .long hh]))]) hPp2 (nI 1)) gX7_fix_X7_fails rfl rfl rfl (by decide +kernel) B.1 ⟨Nat.le_of_ble_eq_true rfl, Nat.le_of_ble_eq_true rfl⟩ rfl rfl (Nat.le_of_ble_eq_true rfl) dX7_fix_15 ⟨Nat.le_of_ble_eq_true rfl, Nat.le_of_ble_eq_true rfl⟩ [0] [1] (by decide : ([0] ++ ([1] : List Nat)).Perm (List.range 2)) rfl rfl 18 rfl (fun v0 R0 t0 ht0 hp0 => ?_)
  obtain ⟨rfl, w_15, hw_15, rfl⟩ := hp0
  refine q_eqs (st' := [.int (nI 0)]) rfl ?_
  refine q_eqR (Rs' := [w_15, wQ]) rfl ?_
  exact q_iret C B dX7_fix_18 rfl rfl (fun t0 ht0 => ⟨rfl, _, hw_15, by first | rfl | simp⟩)

set_option maxHeartbeats 400000 in
set_option maxRecDepth 100000 in
theorem c_X7_fix_b (l : Launch) {D : va_G} {tys : List (ClassId × FieldType)} {Z : (Nat → Prop) → State → Heap → Prop} (hZ : q_St Z) {cI : ClassId} (hI : tys[0]? = some (cI, .int)) (h0 : Nat) (aS : Nat) (aZ : Nat) (aV : Nat) (aN : Nat) (aU : Nat) (aD : Nat) (fd : Nat → Int32) (hh : Int64) (wP : va_W) (hP : k_isP cI h0 aS aZ aV aN aU aD fd hh wP) (bx : k_Bx) (at0 : Nat) (ln : List (Nat × Nat)) (sc : Nat → Int32) (wQ : va_W) (hQ : k_isQ cI aS bx at0 ln sc wQ) (k : Nat) (hk : k < ln.length) (hkh : k_has ln (nI k) = true) (hw : ¬ k_wc bx ln sc k = 0) : q_Ct l D tys Z yX7_fix wsX7_fix ({ frames := 4, cells := 0, slots := 0, locals := 132 } : Room) 0 0 [.ref h0, .int (nI k)] [wP, wQ] (fun v0 R0 _ => v0 = some (.int (nI 0)) ∧ ∃ wP', k_isP cI h0 aS aZ aV aN aU aD (upd (upd fd 0 (nI 0)) 0 (nI 2)) hh wP' ∧ R0 = [wP', wQ]) := by
  have hcI := hI
  refine q_ct (cc := cX7_fix) (maxL := 2) (ret := (some .int)) (own := RX7) (by decide) rfl hZ (Nat.le_of_ble_eq_true rfl) rfl ?_
  intro p9 e9 R s9 m9 args below meth c9 A Q C B
  have hts := C.2.2.2.2.1
  have hinX7 : ∀ w ∈ u_ws RX7 TX7 16, w ∈ wsX7_fix := by decide +kernel
  have f28 := hts (.fieldLink RX7 28 "SortCasesModel" "thrown" "I") (by decide +kernel)
  refine q_eqL (L' := [(0, .ref h0), (1, .int (nI k))]) rfl ?_
  refine q_aload_n C dX7_fix_0 1 0 rfl rfl ?_
  refine q_iconst (v := nI 0) C dX7_fix_1 2 rfl (by decide) ?_
  obtain rfl := hP
  have hPo1 : k_isP cI h0 aS aZ aV aN aU aD fd hh [(h0, .inr (6, [.int (fd 0), .ref aS, .ref aZ, .ref aV, .int (fd 4), .ref aN, .int (fd 6), .ref aU, .int (fd 8), .int (fd 9), .int (fd 10), .ref aD, .int (fd 12), .int (fd 13), .int (fd 14), .long hh]))] := rfl
  refine q_put (k := 0) (j := 0) (f := 0) C hinX7 tyX7 tyX7_ok nmX7 f28 (fun _ h => h) (by decide) rfl rfl (tyX7_ok 0 (by decide)) rfl rfl dX7_fix_2 5 rfl rfl rfl (Nat.le_of_ble_eq_true rfl) [[(h0, .inr (6, [.int (nI 0), .ref aS, .ref aZ, .ref aV, .int (fd 4), .ref aN, .int (fd 6), .ref aU, .int (fd 8), .int (fd 9), .int (fd 10), .ref aD, .int (fd 12), .int (fd 13), .int (fd 14), .long hh]))], wQ] rfl ?_
  have hPp2 : k_isP cI h0 aS aZ aV aN aU aD (upd fd 0 (nI 0)) hh [(h0, .inr (6, [.int (nI 0), .ref aS, .ref aZ, .ref aV, .int (fd 4), .ref aN, .int (fd 6), .ref aU, .int (fd 8), .int (fd 9), .int (fd 10), .ref aD, .int (fd 12), .int (fd 13), .int (fd 14), .long hh]))] := rfl
  refine q_aload_n C dX7_fix_5 6 0 rfl rfl ?_
  refine q_iload_n C dX7_fix_6 7 1 rfl rfl ?_
  refine q_callV (k := 0) (ci := 6) (n := 1) (rest := []) (Rr := []) C rfl (k_isP_recv hPp2) rfl (c_X7_isPlace l hZ hI h0 aS aZ aV aN aU aD (upd fd 0 (nI 0)) hh ([(h0, .inr (6, [.int (nI 0), .ref aS, .ref aZ, .ref aV, .int (fd 4), .ref aN, .int (fd 6), .ref aU, .int (fd 8), .int (fd 9), .int (fd 10), .ref aD, .int (fd 12), .int (fd 13), .int (fd 14), .long hh]))]) hPp2 bx at0 ln sc wQ hQ (nI k)) gX7_fix_X7_isPlace rfl rfl rfl (by decide +kernel) B.1 ⟨Nat.le_of_ble_eq_true rfl, Nat.le_of_ble_eq_true rfl⟩ rfl rfl (Nat.le_of_ble_eq_true rfl) dX7_fix_7 ⟨Nat.le_of_ble_eq_true rfl, Nat.le_of_ble_eq_true rfl⟩ [0, 1] [] (by decide : ([0, 1] ++ ([] : List Nat)).Perm (List.range 2)) rfl rfl 10 rfl (fun v0 R0 t0 ht0 hp0 => ?_)
  obtain ⟨rfl, rfl⟩ := hp0
  refine q_eqs (st' := [.int (q_b (k_has ln (nI k)))]) rfl ?_
  refine q_eqR (Rs' := [[(h0, .inr (6, [.int (nI 0), .ref aS, .ref aZ, .ref aV, .int (fd 4), .ref aN, .int (fd 6), .ref aU, .int (fd 8), .int (fd 9), .int (fd 10), .ref aD, .int (fd 12), .int (fd 13), .int (fd 14), .long hh]))], wQ]) rfl ?_
  refine q_if_ne (P := k_has ln (nI k) = false) C dX7_fix_10 13 19 rfl (by decide) q_b0 (fun h10 => ?_) (fun h10 => False.elim (by first | omega | simp_all))
  refine q_aload_n C dX7_fix_19 20 0 rfl rfl ?_
  refine q_iload_n C dX7_fix_20 21 1 rfl rfl ?_
  refine q_callV (k := 0) (ci := 6) (n := 1) (rest := []) (Rr := []) C rfl (k_isP_recv hPp2) rfl (c_X7_refusesFix l hZ hI h0 aS aZ aV aN aU aD (upd fd 0 (nI 0)) hh ([(h0, .inr (6, [.int (nI 0), .ref aS, .ref aZ, .ref aV, .int (fd 4), .ref aN, .int (fd 6), .ref aU, .int (fd 8), .int (fd 9), .int (fd 10), .ref aD, .int (fd 12), .int (fd 13), .int (fd 14), .long hh]))]) hPp2 bx at0 ln sc wQ hQ k (by omega)) gX7_fix_X7_refusesFix rfl rfl rfl (by decide +kernel) B.1 ⟨Nat.le_of_ble_eq_true rfl, Nat.le_of_ble_eq_true rfl⟩ rfl rfl (Nat.le_of_ble_eq_true rfl) dX7_fix_21 ⟨Nat.le_of_ble_eq_true rfl, Nat.le_of_ble_eq_true rfl⟩ [0, 1] [] (by decide : ([0, 1] ++ ([] : List Nat)).Perm (List.range 2)) rfl rfl 24 rfl (fun v0 R0 t0 ht0 hp0 => ?_)
  obtain ⟨rfl, rfl⟩ := hp0
  refine q_eqs (st' := [.int (nI (k_wc bx ln sc k))]) rfl ?_
  refine q_eqR (Rs' := [[(h0, .inr (6, [.int (nI 0), .ref aS, .ref aZ, .ref aV, .int (fd 4), .ref aN, .int (fd 6), .ref aU, .int (fd 8), .int (fd 9), .int (fd 10), .ref aD, .int (fd 12), .int (fd 13), .int (fd 14), .long hh]))], wQ]) rfl ?_
  have hw21 : k_wc bx ln sc k ≤ 5 := k_wc_le _ _ _ _
  refine q_if_eq C dX7_fix_24 27 33 rfl (by decide) (q_eq0 (by omega)) (fun h24 => False.elim (by first | omega | simp_all)) (fun h24 => ?_)
  refine q_aload_n C dX7_fix_27 28 0 rfl rfl ?_
  refine q_iconst (v := nI 2) C dX7_fix_28 29 rfl (by decide) ?_
  refine q_callV (k := 0) (ci := 6) (n := 1) (rest := []) (Rr := [wQ]) C rfl (k_isP_recv hPp2) rfl (c_X7_fails l hZ hI h0 aS aZ aV aN aU aD (upd fd 0 (nI 0)) hh ([(h0, .inr (6, [.int (nI 0), .ref aS, .ref aZ, .ref aV, .int (fd 4), .ref aN, .int (fd 6), .ref aU, .int (fd 8), .int (fd 9), .int (fd 10), .ref aD, .int (fd 12), .int (fd 13), .int (fd 14), .long hh]))]) hPp2 (nI 2)) gX7_fix_X7_fails rfl rfl rfl (by decide +kernel) B.1 ⟨Nat.le_of_ble_eq_true rfl, Nat.le_of_ble_eq_true rfl⟩ rfl rfl (Nat.le_of_ble_eq_true rfl) dX7_fix_29 ⟨Nat.le_of_ble_eq_true rfl, Nat.le_of_ble_eq_true rfl⟩ [0] [1] (by decide : ([0] ++ ([1] : List Nat)).Perm (List.range 2)) rfl rfl 32 rfl (fun v0 R0 t0 ht0 hp0 => ?_)
  obtain ⟨rfl, w_29, hw_29, rfl⟩ := hp0
  refine q_eqs (st' := [.int (nI 0)]) rfl ?_
  refine q_eqR (Rs' := [w_29, wQ]) rfl ?_
  exact q_iret C B dX7_fix_32 rfl rfl (fun t0 ht0 => ⟨rfl, _, hw_29, by first | rfl | simp⟩)

set_option maxHeartbeats 400000 in
set_option maxRecDepth 100000 in
theorem c_X7_fix_c (l : Launch) {D : va_G} {tys : List (ClassId × FieldType)} {Z : (Nat → Prop) → State → Heap → Prop} (hZ : q_St Z) {cI : ClassId} (hI : tys[0]? = some (cI, .int)) (h0 : Nat) (aS : Nat) (aZ : Nat) (aV : Nat) (aN : Nat) (aU : Nat) (aD : Nat) (fd : Nat → Int32) (hh : Int64) (wP : va_W) (hP : k_isP cI h0 aS aZ aV aN aU aD fd hh wP) (bx : k_Bx) (at0 : Nat) (ln : List (Nat × Nat)) (sc : Nat → Int32) (wQ : va_W) (hQ : k_isQ cI aS bx at0 ln sc wQ) (sv : List k_S) (wV : va_W) (hV : k_isV cI aV sv wV) (k : Nat) (hk : k < ln.length) (hkh : k_has ln (nI k) = true) (hw0 : k_wc bx ln sc k = 0) (h4 : fd 4 = nI sv.length) : q_Ct l D tys Z yX7_fix wsX7_fix ({ frames := 4, cells := 0, slots := 0, locals := 132 } : Room) 0 0 [.ref h0, .int (nI k)] [wP, wQ, wV] (fun v0 R0 _ => v0 = some (.int (nI (k_er (k_rep ln k (k_la ln k).2)))) ∧ ∃ wP', k_isP cI h0 aS aZ aV aN aU aD (upd (upd fd 0 (nI 0)) 4 (nI (k_sav sv (bx, at0, ln, sc)).length)) hh wP' ∧ ∃ wQ', k_isQ cI aS ((k_cor (bx, at0, ln, sc) k).1) at0 (k_rep ln k (k_la ln k).2) (upd (upd sc 8 (sc 8 + nI 1)) 3 (-1)) wQ' ∧ ∃ wV', k_isV cI aV (k_sav sv (bx, at0, ln, sc)) wV' ∧ R0 = [wP', wQ', wV']) := by
  have hcI := hI
  refine q_ct (cc := cX7_fix) (maxL := 2) (ret := (some .int)) (own := RX7) (by decide) rfl hZ (Nat.le_of_ble_eq_true rfl) rfl ?_
  intro p9 e9 R s9 m9 args below meth c9 A Q C B
  have hts := C.2.2.2.2.1
  have hinX7 : ∀ w ∈ u_ws RX7 TX7 16, w ∈ wsX7_fix := by decide +kernel
  have f28 := hts (.fieldLink RX7 28 "SortCasesModel" "thrown" "I") (by decide +kernel)
  refine q_eqL (L' := [(0, .ref h0), (1, .int (nI k))]) rfl ?_
  refine q_aload_n C dX7_fix_0 1 0 rfl rfl ?_
  refine q_iconst (v := nI 0) C dX7_fix_1 2 rfl (by decide) ?_
  obtain rfl := hP
  have hPo1 : k_isP cI h0 aS aZ aV aN aU aD fd hh [(h0, .inr (6, [.int (fd 0), .ref aS, .ref aZ, .ref aV, .int (fd 4), .ref aN, .int (fd 6), .ref aU, .int (fd 8), .int (fd 9), .int (fd 10), .ref aD, .int (fd 12), .int (fd 13), .int (fd 14), .long hh]))] := rfl
  refine q_put (k := 0) (j := 0) (f := 0) C hinX7 tyX7 tyX7_ok nmX7 f28 (fun _ h => h) (by decide) rfl rfl (tyX7_ok 0 (by decide)) rfl rfl dX7_fix_2 5 rfl rfl rfl (Nat.le_of_ble_eq_true rfl) [[(h0, .inr (6, [.int (nI 0), .ref aS, .ref aZ, .ref aV, .int (fd 4), .ref aN, .int (fd 6), .ref aU, .int (fd 8), .int (fd 9), .int (fd 10), .ref aD, .int (fd 12), .int (fd 13), .int (fd 14), .long hh]))], wQ, wV] rfl ?_
  have hPp2 : k_isP cI h0 aS aZ aV aN aU aD (upd fd 0 (nI 0)) hh [(h0, .inr (6, [.int (nI 0), .ref aS, .ref aZ, .ref aV, .int (fd 4), .ref aN, .int (fd 6), .ref aU, .int (fd 8), .int (fd 9), .int (fd 10), .ref aD, .int (fd 12), .int (fd 13), .int (fd 14), .long hh]))] := rfl
  refine q_aload_n C dX7_fix_5 6 0 rfl rfl ?_
  refine q_iload_n C dX7_fix_6 7 1 rfl rfl ?_
  refine q_callV (k := 0) (ci := 6) (n := 1) (rest := []) (Rr := [wV]) C rfl (k_isP_recv hPp2) rfl (c_X7_isPlace l hZ hI h0 aS aZ aV aN aU aD (upd fd 0 (nI 0)) hh ([(h0, .inr (6, [.int (nI 0), .ref aS, .ref aZ, .ref aV, .int (fd 4), .ref aN, .int (fd 6), .ref aU, .int (fd 8), .int (fd 9), .int (fd 10), .ref aD, .int (fd 12), .int (fd 13), .int (fd 14), .long hh]))]) hPp2 bx at0 ln sc wQ hQ (nI k)) gX7_fix_X7_isPlace rfl rfl rfl (by decide +kernel) B.1 ⟨Nat.le_of_ble_eq_true rfl, Nat.le_of_ble_eq_true rfl⟩ rfl rfl (Nat.le_of_ble_eq_true rfl) dX7_fix_7 ⟨Nat.le_of_ble_eq_true rfl, Nat.le_of_ble_eq_true rfl⟩ [0, 1] [2] (by decide : ([0, 1] ++ ([2] : List Nat)).Perm (List.range 3)) rfl rfl 10 rfl (fun v0 R0 t0 ht0 hp0 => ?_)
  obtain ⟨rfl, rfl⟩ := hp0
  refine q_eqs (st' := [.int (q_b (k_has ln (nI k)))]) rfl ?_
  refine q_eqR (Rs' := [[(h0, .inr (6, [.int (nI 0), .ref aS, .ref aZ, .ref aV, .int (fd 4), .ref aN, .int (fd 6), .ref aU, .int (fd 8), .int (fd 9), .int (fd 10), .ref aD, .int (fd 12), .int (fd 13), .int (fd 14), .long hh]))], wQ, wV]) rfl ?_
  refine q_if_ne (P := k_has ln (nI k) = false) C dX7_fix_10 13 19 rfl (by decide) q_b0 (fun h10 => ?_) (fun h10 => False.elim (by first | omega | simp_all))
  refine q_aload_n C dX7_fix_19 20 0 rfl rfl ?_
  refine q_iload_n C dX7_fix_20 21 1 rfl rfl ?_
  refine q_callV (k := 0) (ci := 6) (n := 1) (rest := []) (Rr := [wV]) C rfl (k_isP_recv hPp2) rfl (c_X7_refusesFix l hZ hI h0 aS aZ aV aN aU aD (upd fd 0 (nI 0)) hh ([(h0, .inr (6, [.int (nI 0), .ref aS, .ref aZ, .ref aV, .int (fd 4), .ref aN, .int (fd 6), .ref aU, .int (fd 8), .int (fd 9), .int (fd 10), .ref aD, .int (fd 12), .int (fd 13), .int (fd 14), .long hh]))]) hPp2 bx at0 ln sc wQ hQ k (by omega)) gX7_fix_X7_refusesFix rfl rfl rfl (by decide +kernel) B.1 ⟨Nat.le_of_ble_eq_true rfl, Nat.le_of_ble_eq_true rfl⟩ rfl rfl (Nat.le_of_ble_eq_true rfl) dX7_fix_21 ⟨Nat.le_of_ble_eq_true rfl, Nat.le_of_ble_eq_true rfl⟩ [0, 1] [2] (by decide : ([0, 1] ++ ([2] : List Nat)).Perm (List.range 3)) rfl rfl 24 rfl (fun v0 R0 t0 ht0 hp0 => ?_)
  obtain ⟨rfl, rfl⟩ := hp0
  refine q_eqs (st' := [.int (nI (k_wc bx ln sc k))]) rfl ?_
  refine q_eqR (Rs' := [[(h0, .inr (6, [.int (nI 0), .ref aS, .ref aZ, .ref aV, .int (fd 4), .ref aN, .int (fd 6), .ref aU, .int (fd 8), .int (fd 9), .int (fd 10), .ref aD, .int (fd 12), .int (fd 13), .int (fd 14), .long hh]))], wQ, wV]) rfl ?_
  have hw21 : k_wc bx ln sc k ≤ 5 := k_wc_le _ _ _ _
  refine q_if_eq C dX7_fix_24 27 33 rfl (by decide) (q_eq0 (by omega)) (fun h24 => ?_) (fun h24 => False.elim (by first | omega | simp_all))
  refine q_aload_n C dX7_fix_33 34 0 rfl rfl ?_
  refine q_callV (k := 0) (ci := 6) (n := 0) (rest := []) (Rr := []) C rfl (k_isP_recv hPp2) rfl (c_X7_saves l hZ hI h0 aS aZ aV aN aU aD (upd fd 0 (nI 0)) hh ([(h0, .inr (6, [.int (nI 0), .ref aS, .ref aZ, .ref aV, .int (fd 4), .ref aN, .int (fd 6), .ref aU, .int (fd 8), .int (fd 9), .int (fd 10), .ref aD, .int (fd 12), .int (fd 13), .int (fd 14), .long hh]))]) hPp2 bx at0 ln sc wQ hQ sv wV hV h4) gX7_fix_X7_saves rfl rfl rfl (by decide +kernel) B.1 ⟨Nat.le_of_ble_eq_true rfl, Nat.le_of_ble_eq_true rfl⟩ rfl rfl (Nat.le_of_ble_eq_true rfl) dX7_fix_34 ⟨Nat.le_of_ble_eq_true rfl, Nat.le_of_ble_eq_true rfl⟩ [0, 1, 2] [] (by decide : ([0, 1, 2] ++ ([] : List Nat)).Perm (List.range 3)) rfl rfl 37 rfl (fun v0 R0 t0 ht0 hp0 => ?_)
  obtain ⟨rfl, wP_34, hwP_34, wV_34, hwV_34, rfl⟩ := hp0
  refine q_eqs (st' := []) rfl ?_
  refine q_eqR (Rs' := [wP_34, wQ, wV_34]) rfl ?_
  refine q_aload_n C dX7_fix_37 38 0 rfl rfl ?_
  refine q_iload_n C dX7_fix_38 39 1 rfl rfl ?_
  refine q_callV (k := 0) (ci := 6) (n := 1) (rest := []) (Rr := [wV_34]) C rfl (k_isP_recv hwP_34) rfl (c_X7_fixes l hZ hI h0 aS aZ aV aN aU aD (upd (upd fd 0 (nI 0)) 4 (nI (k_sav sv (bx, at0, ln, sc)).length)) hh wP_34 hwP_34 bx at0 ln sc wQ hQ k (by omega) (by omega)) gX7_fix_X7_fixes rfl rfl rfl (by decide +kernel) B.1 ⟨Nat.le_of_ble_eq_true rfl, Nat.le_of_ble_eq_true rfl⟩ rfl rfl (Nat.le_of_ble_eq_true rfl) dX7_fix_39 ⟨Nat.le_of_ble_eq_true rfl, Nat.le_of_ble_eq_true rfl⟩ [0, 1] [2] (by decide : ([0, 1] ++ ([2] : List Nat)).Perm (List.range 3)) rfl rfl 42 rfl (fun v0 R0 t0 ht0 hp0 => ?_)
  obtain ⟨rfl, wQ_39, hwQ_39, rfl⟩ := hp0
  refine q_eqs (st' := [.int (nI (k_er (k_rep ln k (k_la ln k).2)))]) rfl ?_
  refine q_eqR (Rs' := [wP_34, wQ_39, wV_34]) rfl ?_
  exact q_iret C B dX7_fix_42 rfl rfl (fun t0 ht0 => ⟨rfl, _, hwP_34, _, hwQ_39, _, hwV_34, by first | rfl | simp⟩)

set_option maxHeartbeats 400000 in
set_option maxRecDepth 100000 in
theorem c_X7_back_a (l : Launch) {D : va_G} {tys : List (ClassId × FieldType)} {Z : (Nat → Prop) → State → Heap → Prop} (hZ : q_St Z) {cI : ClassId} (hI : tys[0]? = some (cI, .int)) (h0 : Nat) (aS : Nat) (aZ : Nat) (aV : Nat) (aN : Nat) (aU : Nat) (aD : Nat) (fd : Nat → Int32) (hh : Int64) (wP : va_W) (hP : k_isP cI h0 aS aZ aV aN aU aD fd hh wP) (bx : k_Bx) (at0 : Nat) (ln : List (Nat × Nat)) (sc : Nat → Int32) (wQ : va_W) (hQ : k_isQ cI aS bx at0 ln sc wQ) (hw : ¬ k_wy bx ln sc = 0) : q_Ct l D tys Z yX7_back wsX7_back ({ frames := 5, cells := 0, slots := 0, locals := 162 } : Room) 0 0 [.ref h0] [wP, wQ] (fun v0 R0 _ => v0 = some (.int (nI 0)) ∧ ∃ wP', k_isP cI h0 aS aZ aV aN aU aD (upd (upd fd 0 (nI 0)) 0 (nI 1)) hh wP' ∧ R0 = [wP', wQ]) := by
  have hcI := hI
  refine q_ct (cc := cX7_back) (maxL := 1) (ret := (some .int)) (own := RX7) (by decide) rfl hZ (Nat.le_of_ble_eq_true rfl) rfl ?_
  intro p9 e9 R s9 m9 args below meth c9 A Q C B
  have hts := C.2.2.2.2.1
  have hinX7 : ∀ w ∈ u_ws RX7 TX7 16, w ∈ wsX7_back := by decide +kernel
  have f28 := hts (.fieldLink RX7 28 "SortCasesModel" "thrown" "I") (by decide +kernel)
  refine q_eqL (L' := [(0, .ref h0)]) rfl ?_
  refine q_aload_n C dX7_back_0 1 0 rfl rfl ?_
  refine q_iconst (v := nI 0) C dX7_back_1 2 rfl (by decide) ?_
  obtain rfl := hP
  have hPo1 : k_isP cI h0 aS aZ aV aN aU aD fd hh [(h0, .inr (6, [.int (fd 0), .ref aS, .ref aZ, .ref aV, .int (fd 4), .ref aN, .int (fd 6), .ref aU, .int (fd 8), .int (fd 9), .int (fd 10), .ref aD, .int (fd 12), .int (fd 13), .int (fd 14), .long hh]))] := rfl
  refine q_put (k := 0) (j := 0) (f := 0) C hinX7 tyX7 tyX7_ok nmX7 f28 (fun _ h => h) (by decide) rfl rfl (tyX7_ok 0 (by decide)) rfl rfl dX7_back_2 5 rfl rfl rfl (Nat.le_of_ble_eq_true rfl) [[(h0, .inr (6, [.int (nI 0), .ref aS, .ref aZ, .ref aV, .int (fd 4), .ref aN, .int (fd 6), .ref aU, .int (fd 8), .int (fd 9), .int (fd 10), .ref aD, .int (fd 12), .int (fd 13), .int (fd 14), .long hh]))], wQ] rfl ?_
  have hPp2 : k_isP cI h0 aS aZ aV aN aU aD (upd fd 0 (nI 0)) hh [(h0, .inr (6, [.int (nI 0), .ref aS, .ref aZ, .ref aV, .int (fd 4), .ref aN, .int (fd 6), .ref aU, .int (fd 8), .int (fd 9), .int (fd 10), .ref aD, .int (fd 12), .int (fd 13), .int (fd 14), .long hh]))] := rfl
  refine q_aload_n C dX7_back_5 6 0 rfl rfl ?_
  refine q_callV (k := 0) (ci := 6) (n := 0) (rest := []) (Rr := []) C rfl (k_isP_recv hPp2) rfl (c_X7_canReturn l hZ hI h0 aS aZ aV aN aU aD (upd fd 0 (nI 0)) hh ([(h0, .inr (6, [.int (nI 0), .ref aS, .ref aZ, .ref aV, .int (fd 4), .ref aN, .int (fd 6), .ref aU, .int (fd 8), .int (fd 9), .int (fd 10), .ref aD, .int (fd 12), .int (fd 13), .int (fd 14), .long hh]))]) hPp2 bx at0 ln sc wQ hQ) gX7_back_X7_canReturn rfl rfl rfl (by decide +kernel) B.1 ⟨Nat.le_of_ble_eq_true rfl, Nat.le_of_ble_eq_true rfl⟩ rfl rfl (Nat.le_of_ble_eq_true rfl) dX7_back_6 ⟨Nat.le_of_ble_eq_true rfl, Nat.le_of_ble_eq_true rfl⟩ [0, 1] [] (by decide : ([0, 1] ++ ([] : List Nat)).Perm (List.range 2)) rfl rfl 9 rfl (fun v0 R0 t0 ht0 hp0 => ?_)
  obtain ⟨rfl, rfl⟩ := hp0
  refine q_eqs (st' := [.int (q_b (decide (k_wy bx ln sc = 0)))]) rfl ?_
  refine q_eqR (Rs' := [[(h0, .inr (6, [.int (nI 0), .ref aS, .ref aZ, .ref aV, .int (fd 4), .ref aN, .int (fd 6), .ref aU, .int (fd 8), .int (fd 9), .int (fd 10), .ref aD, .int (fd 12), .int (fd 13), .int (fd 14), .long hh]))], wQ]) rfl ?_
  refine q_if_ne (P := ¬ (k_wy bx ln sc = 0)) C dX7_back_9 12 18 rfl (by decide) q_bd0 (fun h9 => False.elim (by first | omega | simp_all)) (fun h9 => ?_)
  refine q_aload_n C dX7_back_12 13 0 rfl rfl ?_
  refine q_iconst (v := nI 1) C dX7_back_13 14 rfl (by decide) ?_
  refine q_callV (k := 0) (ci := 6) (n := 1) (rest := []) (Rr := [wQ]) C rfl (k_isP_recv hPp2) rfl (c_X7_fails l hZ hI h0 aS aZ aV aN aU aD (upd fd 0 (nI 0)) hh ([(h0, .inr (6, [.int (nI 0), .ref aS, .ref aZ, .ref aV, .int (fd 4), .ref aN, .int (fd 6), .ref aU, .int (fd 8), .int (fd 9), .int (fd 10), .ref aD, .int (fd 12), .int (fd 13), .int (fd 14), .long hh]))]) hPp2 (nI 1)) gX7_back_X7_fails rfl rfl rfl (by decide +kernel) B.1 ⟨Nat.le_of_ble_eq_true rfl, Nat.le_of_ble_eq_true rfl⟩ rfl rfl (Nat.le_of_ble_eq_true rfl) dX7_back_14 ⟨Nat.le_of_ble_eq_true rfl, Nat.le_of_ble_eq_true rfl⟩ [0] [1] (by decide : ([0] ++ ([1] : List Nat)).Perm (List.range 2)) rfl rfl 17 rfl (fun v0 R0 t0 ht0 hp0 => ?_)
  obtain ⟨rfl, w_14, hw_14, rfl⟩ := hp0
  refine q_eqs (st' := [.int (nI 0)]) rfl ?_
  refine q_eqR (Rs' := [w_14, wQ]) rfl ?_
  exact q_iret C B dX7_back_17 rfl rfl (fun t0 ht0 => ⟨rfl, _, hw_14, by first | rfl | simp⟩)

set_option maxHeartbeats 400000 in
set_option maxRecDepth 100000 in
theorem c_X7_back_b (l : Launch) {D : va_G} {tys : List (ClassId × FieldType)} {Z : (Nat → Prop) → State → Heap → Prop} (hZ : q_St Z) {cI : ClassId} (hI : tys[0]? = some (cI, .int)) (h0 : Nat) (aS : Nat) (aZ : Nat) (aV : Nat) (aN : Nat) (aU : Nat) (aD : Nat) (fd : Nat → Int32) (hh : Int64) (wP : va_W) (hP : k_isP cI h0 aS aZ aV aN aU aD fd hh wP) (bx : k_Bx) (at0 : Nat) (ln : List (Nat × Nat)) (sc : Nat → Int32) (wQ : va_W) (hQ : k_isQ cI aS bx at0 ln sc wQ) (sv : List k_S) (wV : va_W) (hV : k_isV cI aV sv wV) (hwy : k_wy bx ln sc = 0) (h4 : fd 4 = nI sv.length) : q_Ct l D tys Z yX7_back wsX7_back ({ frames := 5, cells := 0, slots := 0, locals := 162 } : Room) 0 0 [.ref h0] [wP, wQ, wV] (fun v0 R0 _ => v0 = some (.int (nI (k_wr (k_rb bx ln sc (ln).length)))) ∧ ∃ wP', k_isP cI h0 aS aZ aV aN aU aD (upd (upd fd 0 (nI 0)) 4 (nI (k_sav sv (bx, at0, ln, sc)).length)) hh wP' ∧ ∃ wQ', k_isQ cI aS (k_rb bx ln sc (ln).length) at0 (([] : List (Nat × Nat))) (upd (upd sc 9 (sc 9 + nI 1)) 3 (-1)) wQ' ∧ ∃ wV', k_isV cI aV (k_sav sv (bx, at0, ln, sc)) wV' ∧ R0 = [wP', wQ', wV']) := by
  have hcI := hI
  refine q_ct (cc := cX7_back) (maxL := 1) (ret := (some .int)) (own := RX7) (by decide) rfl hZ (Nat.le_of_ble_eq_true rfl) rfl ?_
  intro p9 e9 R s9 m9 args below meth c9 A Q C B
  have hts := C.2.2.2.2.1
  have hinX7 : ∀ w ∈ u_ws RX7 TX7 16, w ∈ wsX7_back := by decide +kernel
  have f28 := hts (.fieldLink RX7 28 "SortCasesModel" "thrown" "I") (by decide +kernel)
  refine q_eqL (L' := [(0, .ref h0)]) rfl ?_
  refine q_aload_n C dX7_back_0 1 0 rfl rfl ?_
  refine q_iconst (v := nI 0) C dX7_back_1 2 rfl (by decide) ?_
  obtain rfl := hP
  have hPo1 : k_isP cI h0 aS aZ aV aN aU aD fd hh [(h0, .inr (6, [.int (fd 0), .ref aS, .ref aZ, .ref aV, .int (fd 4), .ref aN, .int (fd 6), .ref aU, .int (fd 8), .int (fd 9), .int (fd 10), .ref aD, .int (fd 12), .int (fd 13), .int (fd 14), .long hh]))] := rfl
  refine q_put (k := 0) (j := 0) (f := 0) C hinX7 tyX7 tyX7_ok nmX7 f28 (fun _ h => h) (by decide) rfl rfl (tyX7_ok 0 (by decide)) rfl rfl dX7_back_2 5 rfl rfl rfl (Nat.le_of_ble_eq_true rfl) [[(h0, .inr (6, [.int (nI 0), .ref aS, .ref aZ, .ref aV, .int (fd 4), .ref aN, .int (fd 6), .ref aU, .int (fd 8), .int (fd 9), .int (fd 10), .ref aD, .int (fd 12), .int (fd 13), .int (fd 14), .long hh]))], wQ, wV] rfl ?_
  have hPp2 : k_isP cI h0 aS aZ aV aN aU aD (upd fd 0 (nI 0)) hh [(h0, .inr (6, [.int (nI 0), .ref aS, .ref aZ, .ref aV, .int (fd 4), .ref aN, .int (fd 6), .ref aU, .int (fd 8), .int (fd 9), .int (fd 10), .ref aD, .int (fd 12), .int (fd 13), .int (fd 14), .long hh]))] := rfl
  refine q_aload_n C dX7_back_5 6 0 rfl rfl ?_
  refine q_callV (k := 0) (ci := 6) (n := 0) (rest := []) (Rr := [wV]) C rfl (k_isP_recv hPp2) rfl (c_X7_canReturn l hZ hI h0 aS aZ aV aN aU aD (upd fd 0 (nI 0)) hh ([(h0, .inr (6, [.int (nI 0), .ref aS, .ref aZ, .ref aV, .int (fd 4), .ref aN, .int (fd 6), .ref aU, .int (fd 8), .int (fd 9), .int (fd 10), .ref aD, .int (fd 12), .int (fd 13), .int (fd 14), .long hh]))]) hPp2 bx at0 ln sc wQ hQ) gX7_back_X7_canReturn rfl rfl rfl (by decide +kernel) B.1 ⟨Nat.le_of_ble_eq_true rfl, Nat.le_of_ble_eq_true rfl⟩ rfl rfl (Nat.le_of_ble_eq_true rfl) dX7_back_6 ⟨Nat.le_of_ble_eq_true rfl, Nat.le_of_ble_eq_true rfl⟩ [0, 1] [2] (by decide : ([0, 1] ++ ([2] : List Nat)).Perm (List.range 3)) rfl rfl 9 rfl (fun v0 R0 t0 ht0 hp0 => ?_)
  obtain ⟨rfl, rfl⟩ := hp0
  refine q_eqs (st' := [.int (q_b (decide (k_wy bx ln sc = 0)))]) rfl ?_
  refine q_eqR (Rs' := [[(h0, .inr (6, [.int (nI 0), .ref aS, .ref aZ, .ref aV, .int (fd 4), .ref aN, .int (fd 6), .ref aU, .int (fd 8), .int (fd 9), .int (fd 10), .ref aD, .int (fd 12), .int (fd 13), .int (fd 14), .long hh]))], wQ, wV]) rfl ?_
  refine q_if_ne (P := ¬ (k_wy bx ln sc = 0)) C dX7_back_9 12 18 rfl (by decide) q_bd0 (fun h9 => ?_) (fun h9 => False.elim (by first | omega | simp_all))
  refine q_aload_n C dX7_back_18 19 0 rfl rfl ?_
  refine q_callV (k := 0) (ci := 6) (n := 0) (rest := []) (Rr := []) C rfl (k_isP_recv hPp2) rfl (c_X7_saves l hZ hI h0 aS aZ aV aN aU aD (upd fd 0 (nI 0)) hh ([(h0, .inr (6, [.int (nI 0), .ref aS, .ref aZ, .ref aV, .int (fd 4), .ref aN, .int (fd 6), .ref aU, .int (fd 8), .int (fd 9), .int (fd 10), .ref aD, .int (fd 12), .int (fd 13), .int (fd 14), .long hh]))]) hPp2 bx at0 ln sc wQ hQ sv wV hV h4) gX7_back_X7_saves rfl rfl rfl (by decide +kernel) B.1 ⟨Nat.le_of_ble_eq_true rfl, Nat.le_of_ble_eq_true rfl⟩ rfl rfl (Nat.le_of_ble_eq_true rfl) dX7_back_19 ⟨Nat.le_of_ble_eq_true rfl, Nat.le_of_ble_eq_true rfl⟩ [0, 1, 2] [] (by decide : ([0, 1, 2] ++ ([] : List Nat)).Perm (List.range 3)) rfl rfl 22 rfl (fun v0 R0 t0 ht0 hp0 => ?_)
  obtain ⟨rfl, wP_19, hwP_19, wV_19, hwV_19, rfl⟩ := hp0
  refine q_eqs (st' := []) rfl ?_
  refine q_eqR (Rs' := [wP_19, wQ, wV_19]) rfl ?_
  refine q_aload_n C dX7_back_22 23 0 rfl rfl ?_
  refine q_callV (k := 0) (ci := 6) (n := 0) (rest := []) (Rr := [wV_19]) C rfl (k_isP_recv hwP_19) rfl (c_X7_returns l hZ hI h0 aS aZ aV aN aU aD (upd (upd fd 0 (nI 0)) 4 (nI (k_sav sv (bx, at0, ln, sc)).length)) hh wP_19 hwP_19 bx at0 ln sc wQ hQ (by omega)) gX7_back_X7_returns rfl rfl rfl (by decide +kernel) B.1 ⟨Nat.le_of_ble_eq_true rfl, Nat.le_of_ble_eq_true rfl⟩ rfl rfl (Nat.le_of_ble_eq_true rfl) dX7_back_23 ⟨Nat.le_of_ble_eq_true rfl, Nat.le_of_ble_eq_true rfl⟩ [0, 1] [2] (by decide : ([0, 1] ++ ([2] : List Nat)).Perm (List.range 3)) rfl rfl 26 rfl (fun v0 R0 t0 ht0 hp0 => ?_)
  obtain ⟨rfl, wQ_23, hwQ_23, rfl⟩ := hp0
  refine q_eqs (st' := [.int (nI (k_wr (k_rb bx ln sc (ln).length)))]) rfl ?_
  refine q_eqR (Rs' := [wP_19, wQ_23, wV_19]) rfl ?_
  exact q_iret C B dX7_back_26 rfl rfl (fun t0 ht0 => ⟨rfl, _, hwP_19, _, hwQ_23, _, hwV_19, by first | rfl | simp⟩)

set_option maxHeartbeats 400000 in
set_option maxRecDepth 100000 in
theorem c_X7_swap_a (l : Launch) {D : va_G} {tys : List (ClassId × FieldType)} {Z : (Nat → Prop) → State → Heap → Prop} (hZ : q_St Z) {cI : ClassId} (hI : tys[0]? = some (cI, .int)) (h0 : Nat) (aS : Nat) (aZ : Nat) (aV : Nat) (aN : Nat) (aU : Nat) (aD : Nat) (fd : Nat → Int32) (hh : Int64) (w : va_W) (h : k_isP cI h0 aS aZ aV aN aU aD fd hh w) (v : Int32) (v2 : Int32) (hbad : ¬ ((0 : Int32) ≤ v ∧ v ≤ 11)) : q_Ct l D tys Z yX7_swap wsX7_swap ({ frames := 5, cells := 0, slots := 0, locals := 162 } : Room) 0 0 [.ref h0, .int v, .int v2] [w] (fun v0 R0 _ => v0 = some (.int (nI 0)) ∧ ∃ w', k_isP cI h0 aS aZ aV aN aU aD (upd (upd fd 0 (nI 0)) 0 (nI 1)) hh w' ∧ R0 = [w']) := by
  have hcI := hI
  refine q_ct (cc := cX7_swap) (maxL := 3) (ret := (some .int)) (own := RX7) (by decide) rfl hZ (Nat.le_of_ble_eq_true rfl) rfl ?_
  intro p9 e9 R s9 m9 args below meth c9 A Q C B
  have hts := C.2.2.2.2.1
  have hinX7 : ∀ w ∈ u_ws RX7 TX7 16, w ∈ wsX7_swap := by decide +kernel
  have f28 := hts (.fieldLink RX7 28 "SortCasesModel" "thrown" "I") (by decide +kernel)
  refine q_eqL (L' := [(0, .ref h0), (1, .int v), (2, .int v2)]) rfl ?_
  refine q_aload_n C dX7_swap_0 1 0 rfl rfl ?_
  refine q_iconst (v := nI 0) C dX7_swap_1 2 rfl (by decide) ?_
  obtain rfl := h
  have hPo1 : k_isP cI h0 aS aZ aV aN aU aD fd hh [(h0, .inr (6, [.int (fd 0), .ref aS, .ref aZ, .ref aV, .int (fd 4), .ref aN, .int (fd 6), .ref aU, .int (fd 8), .int (fd 9), .int (fd 10), .ref aD, .int (fd 12), .int (fd 13), .int (fd 14), .long hh]))] := rfl
  refine q_put (k := 0) (j := 0) (f := 0) C hinX7 tyX7 tyX7_ok nmX7 f28 (fun _ h => h) (by decide) rfl rfl (tyX7_ok 0 (by decide)) rfl rfl dX7_swap_2 5 rfl rfl rfl (Nat.le_of_ble_eq_true rfl) [[(h0, .inr (6, [.int (nI 0), .ref aS, .ref aZ, .ref aV, .int (fd 4), .ref aN, .int (fd 6), .ref aU, .int (fd 8), .int (fd 9), .int (fd 10), .ref aD, .int (fd 12), .int (fd 13), .int (fd 14), .long hh]))]] rfl ?_
  have hPp2 : k_isP cI h0 aS aZ aV aN aU aD (upd fd 0 (nI 0)) hh [(h0, .inr (6, [.int (nI 0), .ref aS, .ref aZ, .ref aV, .int (fd 4), .ref aN, .int (fd 6), .ref aU, .int (fd 8), .int (fd 9), .int (fd 10), .ref aD, .int (fd 12), .int (fd 13), .int (fd 14), .long hh]))] := rfl
  refine q_iload_n C dX7_swap_5 6 1 rfl rfl ?_
  refine q_callS (n := 1) (rest := []) (Rr := [[(h0, .inr (6, [.int (nI 0), .ref aS, .ref aZ, .ref aV, .int (fd 4), .ref aN, .int (fd 6), .ref aU, .int (fd 8), .int (fd 9), .int (fd 10), .ref aD, .int (fd 12), .int (fd 13), .int (fd 14), .long hh]))]]) C (c_X7_isBox_f l hZ hI v hbad) gX7_swap_X7_isBox rfl rfl rfl (by decide +kernel) B.1 ⟨Nat.le_of_ble_eq_true rfl, Nat.le_of_ble_eq_true rfl⟩ rfl rfl (Nat.le_of_ble_eq_true rfl) dX7_swap_6 ⟨Nat.le_of_ble_eq_true rfl, Nat.le_of_ble_eq_true rfl⟩ [] [0] (by decide : ([] ++ ([0] : List Nat)).Perm (List.range 1)) rfl rfl 9 rfl (fun v0 R0 t0 ht0 hp0 => ?_)
  obtain ⟨rfl, rfl⟩ := hp0
  refine q_eqs (st' := [.int (nI 0)]) rfl ?_
  refine q_eqR (Rs' := [[(h0, .inr (6, [.int (nI 0), .ref aS, .ref aZ, .ref aV, .int (fd 4), .ref aN, .int (fd 6), .ref aU, .int (fd 8), .int (fd 9), .int (fd 10), .ref aD, .int (fd 12), .int (fd 13), .int (fd 14), .long hh]))]]) rfl ?_
  refine q_if_eq C dX7_swap_9 12 19 rfl (by decide) (q_eq0 (by omega)) (fun h9 => ?_) (fun h9 => False.elim (by first | omega | simp_all))
  refine q_aload_n C dX7_swap_19 20 0 rfl rfl ?_
  refine q_iconst (v := nI 1) C dX7_swap_20 21 rfl (by decide) ?_
  refine q_callV (k := 0) (ci := 6) (n := 1) (rest := []) (Rr := []) C rfl (k_isP_recv hPp2) rfl (c_X7_fails l hZ hI h0 aS aZ aV aN aU aD (upd fd 0 (nI 0)) hh ([(h0, .inr (6, [.int (nI 0), .ref aS, .ref aZ, .ref aV, .int (fd 4), .ref aN, .int (fd 6), .ref aU, .int (fd 8), .int (fd 9), .int (fd 10), .ref aD, .int (fd 12), .int (fd 13), .int (fd 14), .long hh]))]) hPp2 (nI 1)) gX7_swap_X7_fails rfl rfl rfl (by decide +kernel) B.1 ⟨Nat.le_of_ble_eq_true rfl, Nat.le_of_ble_eq_true rfl⟩ rfl rfl (Nat.le_of_ble_eq_true rfl) dX7_swap_21 ⟨Nat.le_of_ble_eq_true rfl, Nat.le_of_ble_eq_true rfl⟩ [0] [] (by decide : ([0] ++ ([] : List Nat)).Perm (List.range 1)) rfl rfl 24 rfl (fun v0 R0 t0 ht0 hp0 => ?_)
  obtain ⟨rfl, w_21, hw_21, rfl⟩ := hp0
  refine q_eqs (st' := [.int (nI 0)]) rfl ?_
  refine q_eqR (Rs' := [w_21]) rfl ?_
  exact q_iret C B dX7_swap_24 rfl rfl (fun t0 ht0 => ⟨rfl, _, hw_21, by first | rfl | simp⟩)

set_option maxHeartbeats 400000 in
set_option maxRecDepth 100000 in
theorem c_X7_swap_b (l : Launch) {D : va_G} {tys : List (ClassId × FieldType)} {Z : (Nat → Prop) → State → Heap → Prop} (hZ : q_St Z) {cI : ClassId} (hI : tys[0]? = some (cI, .int)) (h0 : Nat) (aS : Nat) (aZ : Nat) (aV : Nat) (aN : Nat) (aU : Nat) (aD : Nat) (fd : Nat → Int32) (hh : Int64) (w : va_W) (h : k_isP cI h0 aS aZ aV aN aU aD fd hh w) (b : Nat) (v : Int32) (hb : b < 12) (hbad : ¬ ((0 : Int32) ≤ v ∧ v ≤ 11)) : q_Ct l D tys Z yX7_swap wsX7_swap ({ frames := 5, cells := 0, slots := 0, locals := 162 } : Room) 0 0 [.ref h0, .int (nI b), .int v] [w] (fun v0 R0 _ => v0 = some (.int (nI 0)) ∧ ∃ w', k_isP cI h0 aS aZ aV aN aU aD (upd (upd fd 0 (nI 0)) 0 (nI 1)) hh w' ∧ R0 = [w']) := by
  have hcI := hI
  refine q_ct (cc := cX7_swap) (maxL := 3) (ret := (some .int)) (own := RX7) (by decide) rfl hZ (Nat.le_of_ble_eq_true rfl) rfl ?_
  intro p9 e9 R s9 m9 args below meth c9 A Q C B
  have hts := C.2.2.2.2.1
  have hinX7 : ∀ w ∈ u_ws RX7 TX7 16, w ∈ wsX7_swap := by decide +kernel
  have f28 := hts (.fieldLink RX7 28 "SortCasesModel" "thrown" "I") (by decide +kernel)
  refine q_eqL (L' := [(0, .ref h0), (1, .int (nI b)), (2, .int v)]) rfl ?_
  refine q_aload_n C dX7_swap_0 1 0 rfl rfl ?_
  refine q_iconst (v := nI 0) C dX7_swap_1 2 rfl (by decide) ?_
  obtain rfl := h
  have hPo1 : k_isP cI h0 aS aZ aV aN aU aD fd hh [(h0, .inr (6, [.int (fd 0), .ref aS, .ref aZ, .ref aV, .int (fd 4), .ref aN, .int (fd 6), .ref aU, .int (fd 8), .int (fd 9), .int (fd 10), .ref aD, .int (fd 12), .int (fd 13), .int (fd 14), .long hh]))] := rfl
  refine q_put (k := 0) (j := 0) (f := 0) C hinX7 tyX7 tyX7_ok nmX7 f28 (fun _ h => h) (by decide) rfl rfl (tyX7_ok 0 (by decide)) rfl rfl dX7_swap_2 5 rfl rfl rfl (Nat.le_of_ble_eq_true rfl) [[(h0, .inr (6, [.int (nI 0), .ref aS, .ref aZ, .ref aV, .int (fd 4), .ref aN, .int (fd 6), .ref aU, .int (fd 8), .int (fd 9), .int (fd 10), .ref aD, .int (fd 12), .int (fd 13), .int (fd 14), .long hh]))]] rfl ?_
  have hPp2 : k_isP cI h0 aS aZ aV aN aU aD (upd fd 0 (nI 0)) hh [(h0, .inr (6, [.int (nI 0), .ref aS, .ref aZ, .ref aV, .int (fd 4), .ref aN, .int (fd 6), .ref aU, .int (fd 8), .int (fd 9), .int (fd 10), .ref aD, .int (fd 12), .int (fd 13), .int (fd 14), .long hh]))] := rfl
  refine q_iload_n C dX7_swap_5 6 1 rfl rfl ?_
  refine q_callS (n := 1) (rest := []) (Rr := [[(h0, .inr (6, [.int (nI 0), .ref aS, .ref aZ, .ref aV, .int (fd 4), .ref aN, .int (fd 6), .ref aU, .int (fd 8), .int (fd 9), .int (fd 10), .ref aD, .int (fd 12), .int (fd 13), .int (fd 14), .long hh]))]]) C (c_X7_isBox_t l hZ hI (nI b) (k_b12 (by omega))) gX7_swap_X7_isBox rfl rfl rfl (by decide +kernel) B.1 ⟨Nat.le_of_ble_eq_true rfl, Nat.le_of_ble_eq_true rfl⟩ rfl rfl (Nat.le_of_ble_eq_true rfl) dX7_swap_6 ⟨Nat.le_of_ble_eq_true rfl, Nat.le_of_ble_eq_true rfl⟩ [] [0] (by decide : ([] ++ ([0] : List Nat)).Perm (List.range 1)) rfl rfl 9 rfl (fun v0 R0 t0 ht0 hp0 => ?_)
  obtain ⟨rfl, rfl⟩ := hp0
  refine q_eqs (st' := [.int (nI 1)]) rfl ?_
  refine q_eqR (Rs' := [[(h0, .inr (6, [.int (nI 0), .ref aS, .ref aZ, .ref aV, .int (fd 4), .ref aN, .int (fd 6), .ref aU, .int (fd 8), .int (fd 9), .int (fd 10), .ref aD, .int (fd 12), .int (fd 13), .int (fd 14), .long hh]))]]) rfl ?_
  refine q_if_eq C dX7_swap_9 12 19 rfl (by decide) (q_eq0 (by omega)) (fun h9 => False.elim (by first | omega | simp_all)) (fun h9 => ?_)
  refine q_iload_n C dX7_swap_12 13 2 rfl rfl ?_
  refine q_callS (n := 1) (rest := []) (Rr := [[(h0, .inr (6, [.int (nI 0), .ref aS, .ref aZ, .ref aV, .int (fd 4), .ref aN, .int (fd 6), .ref aU, .int (fd 8), .int (fd 9), .int (fd 10), .ref aD, .int (fd 12), .int (fd 13), .int (fd 14), .long hh]))]]) C (c_X7_isBox_f l hZ hI v hbad) gX7_swap_X7_isBox rfl rfl rfl (by decide +kernel) B.1 ⟨Nat.le_of_ble_eq_true rfl, Nat.le_of_ble_eq_true rfl⟩ rfl rfl (Nat.le_of_ble_eq_true rfl) dX7_swap_13 ⟨Nat.le_of_ble_eq_true rfl, Nat.le_of_ble_eq_true rfl⟩ [] [0] (by decide : ([] ++ ([0] : List Nat)).Perm (List.range 1)) rfl rfl 16 rfl (fun v0 R0 t0 ht0 hp0 => ?_)
  obtain ⟨rfl, rfl⟩ := hp0
  refine q_eqs (st' := [.int (nI 0)]) rfl ?_
  refine q_eqR (Rs' := [[(h0, .inr (6, [.int (nI 0), .ref aS, .ref aZ, .ref aV, .int (fd 4), .ref aN, .int (fd 6), .ref aU, .int (fd 8), .int (fd 9), .int (fd 10), .ref aD, .int (fd 12), .int (fd 13), .int (fd 14), .long hh]))]]) rfl ?_
  refine q_if_ne C dX7_swap_16 19 25 rfl (by decide) (q_eq0 (by omega)) (fun h16 => False.elim (by first | omega | simp_all)) (fun h16 => ?_)
  refine q_aload_n C dX7_swap_19 20 0 rfl rfl ?_
  refine q_iconst (v := nI 1) C dX7_swap_20 21 rfl (by decide) ?_
  refine q_callV (k := 0) (ci := 6) (n := 1) (rest := []) (Rr := []) C rfl (k_isP_recv hPp2) rfl (c_X7_fails l hZ hI h0 aS aZ aV aN aU aD (upd fd 0 (nI 0)) hh ([(h0, .inr (6, [.int (nI 0), .ref aS, .ref aZ, .ref aV, .int (fd 4), .ref aN, .int (fd 6), .ref aU, .int (fd 8), .int (fd 9), .int (fd 10), .ref aD, .int (fd 12), .int (fd 13), .int (fd 14), .long hh]))]) hPp2 (nI 1)) gX7_swap_X7_fails rfl rfl rfl (by decide +kernel) B.1 ⟨Nat.le_of_ble_eq_true rfl, Nat.le_of_ble_eq_true rfl⟩ rfl rfl (Nat.le_of_ble_eq_true rfl) dX7_swap_21 ⟨Nat.le_of_ble_eq_true rfl, Nat.le_of_ble_eq_true rfl⟩ [0] [] (by decide : ([0] ++ ([] : List Nat)).Perm (List.range 1)) rfl rfl 24 rfl (fun v0 R0 t0 ht0 hp0 => ?_)
  obtain ⟨rfl, w_21, hw_21, rfl⟩ := hp0
  refine q_eqs (st' := [.int (nI 0)]) rfl ?_
  refine q_eqR (Rs' := [w_21]) rfl ?_
  exact q_iret C B dX7_swap_24 rfl rfl (fun t0 ht0 => ⟨rfl, _, hw_21, by first | rfl | simp⟩)

set_option maxHeartbeats 400000 in
set_option maxRecDepth 100000 in
theorem c_X7_swap_c (l : Launch) {D : va_G} {tys : List (ClassId × FieldType)} {Z : (Nat → Prop) → State → Heap → Prop} (hZ : q_St Z) {cI : ClassId} (hI : tys[0]? = some (cI, .int)) (h0 : Nat) (aS : Nat) (aZ : Nat) (aV : Nat) (aN : Nat) (aU : Nat) (aD : Nat) (fd : Nat → Int32) (hh : Int64) (wP : va_W) (hP : k_isP cI h0 aS aZ aV aN aU aD fd hh wP) (bx : k_Bx) (at0 : Nat) (ln : List (Nat × Nat)) (sc : Nat → Int32) (wQ : va_W) (hQ : k_isQ cI aS bx at0 ln sc wQ) (sv : List k_S) (wV : va_W) (hV : k_isV cI aV sv wV) (b : Nat) (o : Nat) (hb : b < 12) (ho : o < 12) (h4 : fd 4 = nI sv.length) : q_Ct l D tys Z yX7_swap wsX7_swap ({ frames := 5, cells := 0, slots := 0, locals := 162 } : Room) 0 0 [.ref h0, .int (nI b), .int (nI o)] [wP, wQ, wV] (fun v0 R0 _ => v0 = some (.int (nI (k_wr (k_ex bx b o)))) ∧ ∃ wP', k_isP cI h0 aS aZ aV aN aU aD (upd (upd fd 0 (nI 0)) 4 (nI (k_sav sv (bx, at0, ln, sc)).length)) hh wP' ∧ ∃ wQ', k_isQ cI aS (k_ex bx b o) at0 ln (upd sc 3 (-1)) wQ' ∧ ∃ wV', k_isV cI aV (k_sav sv (bx, at0, ln, sc)) wV' ∧ R0 = [wP', wQ', wV']) := by
  have hcI := hI
  refine q_ct (cc := cX7_swap) (maxL := 3) (ret := (some .int)) (own := RX7) (by decide) rfl hZ (Nat.le_of_ble_eq_true rfl) rfl ?_
  intro p9 e9 R s9 m9 args below meth c9 A Q C B
  have hts := C.2.2.2.2.1
  have hinX7 : ∀ w ∈ u_ws RX7 TX7 16, w ∈ wsX7_swap := by decide +kernel
  have f28 := hts (.fieldLink RX7 28 "SortCasesModel" "thrown" "I") (by decide +kernel)
  refine q_eqL (L' := [(0, .ref h0), (1, .int (nI b)), (2, .int (nI o))]) rfl ?_
  refine q_aload_n C dX7_swap_0 1 0 rfl rfl ?_
  refine q_iconst (v := nI 0) C dX7_swap_1 2 rfl (by decide) ?_
  obtain rfl := hP
  have hPo1 : k_isP cI h0 aS aZ aV aN aU aD fd hh [(h0, .inr (6, [.int (fd 0), .ref aS, .ref aZ, .ref aV, .int (fd 4), .ref aN, .int (fd 6), .ref aU, .int (fd 8), .int (fd 9), .int (fd 10), .ref aD, .int (fd 12), .int (fd 13), .int (fd 14), .long hh]))] := rfl
  refine q_put (k := 0) (j := 0) (f := 0) C hinX7 tyX7 tyX7_ok nmX7 f28 (fun _ h => h) (by decide) rfl rfl (tyX7_ok 0 (by decide)) rfl rfl dX7_swap_2 5 rfl rfl rfl (Nat.le_of_ble_eq_true rfl) [[(h0, .inr (6, [.int (nI 0), .ref aS, .ref aZ, .ref aV, .int (fd 4), .ref aN, .int (fd 6), .ref aU, .int (fd 8), .int (fd 9), .int (fd 10), .ref aD, .int (fd 12), .int (fd 13), .int (fd 14), .long hh]))], wQ, wV] rfl ?_
  have hPp2 : k_isP cI h0 aS aZ aV aN aU aD (upd fd 0 (nI 0)) hh [(h0, .inr (6, [.int (nI 0), .ref aS, .ref aZ, .ref aV, .int (fd 4), .ref aN, .int (fd 6), .ref aU, .int (fd 8), .int (fd 9), .int (fd 10), .ref aD, .int (fd 12), .int (fd 13), .int (fd 14), .long hh]))] := rfl
  refine q_iload_n C dX7_swap_5 6 1 rfl rfl ?_
  refine q_callS (n := 1) (rest := []) (Rr := [[(h0, .inr (6, [.int (nI 0), .ref aS, .ref aZ, .ref aV, .int (fd 4), .ref aN, .int (fd 6), .ref aU, .int (fd 8), .int (fd 9), .int (fd 10), .ref aD, .int (fd 12), .int (fd 13), .int (fd 14), .long hh]))], wQ, wV]) C (c_X7_isBox_t l hZ hI (nI b) (k_b12 (by omega))) gX7_swap_X7_isBox rfl rfl rfl (by decide +kernel) B.1 ⟨Nat.le_of_ble_eq_true rfl, Nat.le_of_ble_eq_true rfl⟩ rfl rfl (Nat.le_of_ble_eq_true rfl) dX7_swap_6 ⟨Nat.le_of_ble_eq_true rfl, Nat.le_of_ble_eq_true rfl⟩ [] [0, 1, 2] (by decide : ([] ++ ([0, 1, 2] : List Nat)).Perm (List.range 3)) rfl rfl 9 rfl (fun v0 R0 t0 ht0 hp0 => ?_)
  obtain ⟨rfl, rfl⟩ := hp0
  refine q_eqs (st' := [.int (nI 1)]) rfl ?_
  refine q_eqR (Rs' := [[(h0, .inr (6, [.int (nI 0), .ref aS, .ref aZ, .ref aV, .int (fd 4), .ref aN, .int (fd 6), .ref aU, .int (fd 8), .int (fd 9), .int (fd 10), .ref aD, .int (fd 12), .int (fd 13), .int (fd 14), .long hh]))], wQ, wV]) rfl ?_
  refine q_if_eq C dX7_swap_9 12 19 rfl (by decide) (q_eq0 (by omega)) (fun h9 => False.elim (by first | omega | simp_all)) (fun h9 => ?_)
  refine q_iload_n C dX7_swap_12 13 2 rfl rfl ?_
  refine q_callS (n := 1) (rest := []) (Rr := [[(h0, .inr (6, [.int (nI 0), .ref aS, .ref aZ, .ref aV, .int (fd 4), .ref aN, .int (fd 6), .ref aU, .int (fd 8), .int (fd 9), .int (fd 10), .ref aD, .int (fd 12), .int (fd 13), .int (fd 14), .long hh]))], wQ, wV]) C (c_X7_isBox_t l hZ hI (nI o) (k_b12 (by omega))) gX7_swap_X7_isBox rfl rfl rfl (by decide +kernel) B.1 ⟨Nat.le_of_ble_eq_true rfl, Nat.le_of_ble_eq_true rfl⟩ rfl rfl (Nat.le_of_ble_eq_true rfl) dX7_swap_13 ⟨Nat.le_of_ble_eq_true rfl, Nat.le_of_ble_eq_true rfl⟩ [] [0, 1, 2] (by decide : ([] ++ ([0, 1, 2] : List Nat)).Perm (List.range 3)) rfl rfl 16 rfl (fun v0 R0 t0 ht0 hp0 => ?_)
  obtain ⟨rfl, rfl⟩ := hp0
  refine q_eqs (st' := [.int (nI 1)]) rfl ?_
  refine q_eqR (Rs' := [[(h0, .inr (6, [.int (nI 0), .ref aS, .ref aZ, .ref aV, .int (fd 4), .ref aN, .int (fd 6), .ref aU, .int (fd 8), .int (fd 9), .int (fd 10), .ref aD, .int (fd 12), .int (fd 13), .int (fd 14), .long hh]))], wQ, wV]) rfl ?_
  refine q_if_ne C dX7_swap_16 19 25 rfl (by decide) (q_eq0 (by omega)) (fun h16 => ?_) (fun h16 => False.elim (by first | omega | simp_all))
  refine q_aload_n C dX7_swap_25 26 0 rfl rfl ?_
  refine q_callV (k := 0) (ci := 6) (n := 0) (rest := []) (Rr := []) C rfl (k_isP_recv hPp2) rfl (c_X7_saves l hZ hI h0 aS aZ aV aN aU aD (upd fd 0 (nI 0)) hh ([(h0, .inr (6, [.int (nI 0), .ref aS, .ref aZ, .ref aV, .int (fd 4), .ref aN, .int (fd 6), .ref aU, .int (fd 8), .int (fd 9), .int (fd 10), .ref aD, .int (fd 12), .int (fd 13), .int (fd 14), .long hh]))]) hPp2 bx at0 ln sc wQ hQ sv wV hV h4) gX7_swap_X7_saves rfl rfl rfl (by decide +kernel) B.1 ⟨Nat.le_of_ble_eq_true rfl, Nat.le_of_ble_eq_true rfl⟩ rfl rfl (Nat.le_of_ble_eq_true rfl) dX7_swap_26 ⟨Nat.le_of_ble_eq_true rfl, Nat.le_of_ble_eq_true rfl⟩ [0, 1, 2] [] (by decide : ([0, 1, 2] ++ ([] : List Nat)).Perm (List.range 3)) rfl rfl 29 rfl (fun v0 R0 t0 ht0 hp0 => ?_)
  obtain ⟨rfl, wP_26, hwP_26, wV_26, hwV_26, rfl⟩ := hp0
  refine q_eqs (st' := []) rfl ?_
  refine q_eqR (Rs' := [wP_26, wQ, wV_26]) rfl ?_
  refine q_aload_n C dX7_swap_29 30 0 rfl rfl ?_
  refine q_iload_n C dX7_swap_30 31 1 rfl rfl ?_
  refine q_iload_n C dX7_swap_31 32 2 rfl rfl ?_
  refine q_callV (k := 0) (ci := 6) (n := 2) (rest := []) (Rr := [wV_26]) C rfl (k_isP_recv hwP_26) rfl (c_X7_swaps l hZ hI h0 aS aZ aV aN aU aD (upd (upd fd 0 (nI 0)) 4 (nI (k_sav sv (bx, at0, ln, sc)).length)) hh wP_26 hwP_26 bx at0 ln sc wQ hQ b o (by omega) (by omega)) gX7_swap_X7_swaps rfl rfl rfl (by decide +kernel) B.1 ⟨Nat.le_of_ble_eq_true rfl, Nat.le_of_ble_eq_true rfl⟩ rfl rfl (Nat.le_of_ble_eq_true rfl) dX7_swap_32 ⟨Nat.le_of_ble_eq_true rfl, Nat.le_of_ble_eq_true rfl⟩ [0, 1] [2] (by decide : ([0, 1] ++ ([2] : List Nat)).Perm (List.range 3)) rfl rfl 35 rfl (fun v0 R0 t0 ht0 hp0 => ?_)
  obtain ⟨rfl, wQ_32, hwQ_32, rfl⟩ := hp0
  refine q_eqs (st' := [.int (nI (k_wr (k_ex bx b o)))]) rfl ?_
  refine q_eqR (Rs' := [wP_26, wQ_32, wV_26]) rfl ?_
  exact q_iret C B dX7_swap_35 rfl rfl (fun t0 ht0 => ⟨rfl, _, hwP_26, _, hwQ_32, _, hwV_26, by first | rfl | simp⟩)

set_option maxHeartbeats 400000 in
set_option maxRecDepth 100000 in
theorem c_X7_change_a (l : Launch) {D : va_G} {tys : List (ClassId × FieldType)} {Z : (Nat → Prop) → State → Heap → Prop} (hZ : q_St Z) {cI : ClassId} (hI : tys[0]? = some (cI, .int)) (h0 : Nat) (aS : Nat) (aZ : Nat) (aV : Nat) (aN : Nat) (aU : Nat) (aD : Nat) (fd : Nat → Int32) (hh : Int64) (w : va_W) (h : k_isP cI h0 aS aZ aV aN aU aD fd hh w) (v : Int32) (v2 : Int32) (hbad : ¬ (nI 0 ≤ v ∧ v ≤ nI 2)) : q_Ct l D tys Z yX7_change wsX7_change ({ frames := 2, cells := 0, slots := 0, locals := 72 } : Room) 0 0 [.ref h0, .int v, .int v2] [w] (fun v0 R0 _ => v0 = some (.int (nI 0)) ∧ ∃ w', k_isP cI h0 aS aZ aV aN aU aD (upd (upd fd 0 (nI 0)) 0 (nI 1)) hh w' ∧ R0 = [w']) := by
  have hcI := hI
  refine q_ct (cc := cX7_change) (maxL := 4) (ret := (some .int)) (own := RX7) (by decide) rfl hZ (Nat.le_of_ble_eq_true rfl) rfl ?_
  intro p9 e9 R s9 m9 args below meth c9 A Q C B
  have hts := C.2.2.2.2.1
  have hinX7 : ∀ w ∈ u_ws RX7 TX7 16, w ∈ wsX7_change := by decide +kernel
  have f28 := hts (.fieldLink RX7 28 "SortCasesModel" "thrown" "I") (by decide +kernel)
  refine q_eqL (L' := [(0, .ref h0), (1, .int v), (2, .int v2)]) rfl ?_
  refine q_aload_n C dX7_change_0 1 0 rfl rfl ?_
  refine q_iconst (v := nI 0) C dX7_change_1 2 rfl (by decide) ?_
  obtain rfl := h
  have hPo1 : k_isP cI h0 aS aZ aV aN aU aD fd hh [(h0, .inr (6, [.int (fd 0), .ref aS, .ref aZ, .ref aV, .int (fd 4), .ref aN, .int (fd 6), .ref aU, .int (fd 8), .int (fd 9), .int (fd 10), .ref aD, .int (fd 12), .int (fd 13), .int (fd 14), .long hh]))] := rfl
  refine q_put (k := 0) (j := 0) (f := 0) C hinX7 tyX7 tyX7_ok nmX7 f28 (fun _ h => h) (by decide) rfl rfl (tyX7_ok 0 (by decide)) rfl rfl dX7_change_2 5 rfl rfl rfl (Nat.le_of_ble_eq_true rfl) [[(h0, .inr (6, [.int (nI 0), .ref aS, .ref aZ, .ref aV, .int (fd 4), .ref aN, .int (fd 6), .ref aU, .int (fd 8), .int (fd 9), .int (fd 10), .ref aD, .int (fd 12), .int (fd 13), .int (fd 14), .long hh]))]] rfl ?_
  have hPp2 : k_isP cI h0 aS aZ aV aN aU aD (upd fd 0 (nI 0)) hh [(h0, .inr (6, [.int (nI 0), .ref aS, .ref aZ, .ref aV, .int (fd 4), .ref aN, .int (fd 6), .ref aU, .int (fd 8), .int (fd 9), .int (fd 10), .ref aD, .int (fd 12), .int (fd 13), .int (fd 14), .long hh]))] := rfl
  refine q_iload_n C dX7_change_5 6 1 rfl rfl ?_
  refine q_iconst (v := nI 0) C dX7_change_6 7 rfl (by decide) ?_
  refine q_iconst (v := nI 2) C dX7_change_7 8 rfl (by decide) ?_
  refine q_callS (n := 3) (rest := []) (Rr := [[(h0, .inr (6, [.int (nI 0), .ref aS, .ref aZ, .ref aV, .int (fd 4), .ref aN, .int (fd 6), .ref aU, .int (fd 8), .int (fd 9), .int (fd 10), .ref aD, .int (fd 12), .int (fd 13), .int (fd 14), .long hh]))]]) C (c_X7_in_f l hZ hI v (nI 0) (nI 2) hbad) gX7_change_X7_in rfl rfl rfl (by decide +kernel) B.1 ⟨Nat.le_of_ble_eq_true rfl, Nat.le_of_ble_eq_true rfl⟩ rfl rfl (Nat.le_of_ble_eq_true rfl) dX7_change_8 ⟨Nat.le_of_ble_eq_true rfl, Nat.le_of_ble_eq_true rfl⟩ [] [0] (by decide : ([] ++ ([0] : List Nat)).Perm (List.range 1)) rfl rfl 11 rfl (fun v0 R0 t0 ht0 hp0 => ?_)
  obtain ⟨rfl, rfl⟩ := hp0
  refine q_eqs (st' := [.int (nI 0)]) rfl ?_
  refine q_eqR (Rs' := [[(h0, .inr (6, [.int (nI 0), .ref aS, .ref aZ, .ref aV, .int (fd 4), .ref aN, .int (fd 6), .ref aU, .int (fd 8), .int (fd 9), .int (fd 10), .ref aD, .int (fd 12), .int (fd 13), .int (fd 14), .long hh]))]]) rfl ?_
  refine q_if_ne C dX7_change_11 14 20 rfl (by decide) (q_eq0 (by omega)) (fun h11 => False.elim (by first | omega | simp_all)) (fun h11 => ?_)
  refine q_aload_n C dX7_change_14 15 0 rfl rfl ?_
  refine q_iconst (v := nI 1) C dX7_change_15 16 rfl (by decide) ?_
  refine q_callV (k := 0) (ci := 6) (n := 1) (rest := []) (Rr := []) C rfl (k_isP_recv hPp2) rfl (c_X7_fails l hZ hI h0 aS aZ aV aN aU aD (upd fd 0 (nI 0)) hh ([(h0, .inr (6, [.int (nI 0), .ref aS, .ref aZ, .ref aV, .int (fd 4), .ref aN, .int (fd 6), .ref aU, .int (fd 8), .int (fd 9), .int (fd 10), .ref aD, .int (fd 12), .int (fd 13), .int (fd 14), .long hh]))]) hPp2 (nI 1)) gX7_change_X7_fails rfl rfl rfl (by decide +kernel) B.1 ⟨Nat.le_of_ble_eq_true rfl, Nat.le_of_ble_eq_true rfl⟩ rfl rfl (Nat.le_of_ble_eq_true rfl) dX7_change_16 ⟨Nat.le_of_ble_eq_true rfl, Nat.le_of_ble_eq_true rfl⟩ [0] [] (by decide : ([0] ++ ([] : List Nat)).Perm (List.range 1)) rfl rfl 19 rfl (fun v0 R0 t0 ht0 hp0 => ?_)
  obtain ⟨rfl, w_16, hw_16, rfl⟩ := hp0
  refine q_eqs (st' := [.int (nI 0)]) rfl ?_
  refine q_eqR (Rs' := [w_16]) rfl ?_
  exact q_iret C B dX7_change_19 rfl rfl (fun t0 ht0 => ⟨rfl, _, hw_16, by first | rfl | simp⟩)

set_option maxHeartbeats 400000 in
set_option maxRecDepth 100000 in
theorem c_X7_change_b (l : Launch) {D : va_G} {tys : List (ClassId × FieldType)} {Z : (Nat → Prop) → State → Heap → Prop} (hZ : q_St Z) {cI : ClassId} (hI : tys[0]? = some (cI, .int)) (h0 : Nat) (aS : Nat) (aZ : Nat) (aV : Nat) (aN : Nat) (aU : Nat) (aD : Nat) (fd : Nat → Int32) (hh : Int64) (w : va_W) (h : k_isP cI h0 aS aZ aV aN aU aD fd hh w) (i : Nat) (v : Int32) (hi : i < 3) (hbad : ¬ (k_lo i ≤ v ∧ v ≤ k_hi i)) : q_Ct l D tys Z yX7_change wsX7_change ({ frames := 2, cells := 0, slots := 0, locals := 72 } : Room) 0 0 [.ref h0, .int (nI i), .int v] [w] (fun v0 R0 _ => v0 = some (.int (nI 0)) ∧ ∃ w', k_isP cI h0 aS aZ aV aN aU aD (upd (upd fd 0 (nI 0)) 0 (nI 2)) hh w' ∧ R0 = [w']) := by
  have hcI := hI
  refine q_ct (cc := cX7_change) (maxL := 4) (ret := (some .int)) (own := RX7) (by decide) rfl hZ (Nat.le_of_ble_eq_true rfl) rfl ?_
  intro p9 e9 R s9 m9 args below meth c9 A Q C B
  have hts := C.2.2.2.2.1
  have hinX7 : ∀ w ∈ u_ws RX7 TX7 16, w ∈ wsX7_change := by decide +kernel
  have f28 := hts (.fieldLink RX7 28 "SortCasesModel" "thrown" "I") (by decide +kernel)
  refine q_eqL (L' := [(0, .ref h0), (1, .int (nI i)), (2, .int v)]) rfl ?_
  refine q_aload_n C dX7_change_0 1 0 rfl rfl ?_
  refine q_iconst (v := nI 0) C dX7_change_1 2 rfl (by decide) ?_
  obtain rfl := h
  have hPo1 : k_isP cI h0 aS aZ aV aN aU aD fd hh [(h0, .inr (6, [.int (fd 0), .ref aS, .ref aZ, .ref aV, .int (fd 4), .ref aN, .int (fd 6), .ref aU, .int (fd 8), .int (fd 9), .int (fd 10), .ref aD, .int (fd 12), .int (fd 13), .int (fd 14), .long hh]))] := rfl
  refine q_put (k := 0) (j := 0) (f := 0) C hinX7 tyX7 tyX7_ok nmX7 f28 (fun _ h => h) (by decide) rfl rfl (tyX7_ok 0 (by decide)) rfl rfl dX7_change_2 5 rfl rfl rfl (Nat.le_of_ble_eq_true rfl) [[(h0, .inr (6, [.int (nI 0), .ref aS, .ref aZ, .ref aV, .int (fd 4), .ref aN, .int (fd 6), .ref aU, .int (fd 8), .int (fd 9), .int (fd 10), .ref aD, .int (fd 12), .int (fd 13), .int (fd 14), .long hh]))]] rfl ?_
  have hPp2 : k_isP cI h0 aS aZ aV aN aU aD (upd fd 0 (nI 0)) hh [(h0, .inr (6, [.int (nI 0), .ref aS, .ref aZ, .ref aV, .int (fd 4), .ref aN, .int (fd 6), .ref aU, .int (fd 8), .int (fd 9), .int (fd 10), .ref aD, .int (fd 12), .int (fd 13), .int (fd 14), .long hh]))] := rfl
  refine q_iload_n C dX7_change_5 6 1 rfl rfl ?_
  refine q_iconst (v := nI 0) C dX7_change_6 7 rfl (by decide) ?_
  refine q_iconst (v := nI 2) C dX7_change_7 8 rfl (by decide) ?_
  refine q_callS (n := 3) (rest := []) (Rr := [[(h0, .inr (6, [.int (nI 0), .ref aS, .ref aZ, .ref aV, .int (fd 4), .ref aN, .int (fd 6), .ref aU, .int (fd 8), .int (fd 9), .int (fd 10), .ref aD, .int (fd 12), .int (fd 13), .int (fd 14), .long hh]))]]) C (c_X7_in_t l hZ hI (nI i) (nI 0) (nI 2) (k_in2 (by omega) (by omega) (by omega))) gX7_change_X7_in rfl rfl rfl (by decide +kernel) B.1 ⟨Nat.le_of_ble_eq_true rfl, Nat.le_of_ble_eq_true rfl⟩ rfl rfl (Nat.le_of_ble_eq_true rfl) dX7_change_8 ⟨Nat.le_of_ble_eq_true rfl, Nat.le_of_ble_eq_true rfl⟩ [] [0] (by decide : ([] ++ ([0] : List Nat)).Perm (List.range 1)) rfl rfl 11 rfl (fun v0 R0 t0 ht0 hp0 => ?_)
  obtain ⟨rfl, rfl⟩ := hp0
  refine q_eqs (st' := [.int (nI 1)]) rfl ?_
  refine q_eqR (Rs' := [[(h0, .inr (6, [.int (nI 0), .ref aS, .ref aZ, .ref aV, .int (fd 4), .ref aN, .int (fd 6), .ref aU, .int (fd 8), .int (fd 9), .int (fd 10), .ref aD, .int (fd 12), .int (fd 13), .int (fd 14), .long hh]))]]) rfl ?_
  refine q_if_ne C dX7_change_11 14 20 rfl (by decide) (q_eq0 (by omega)) (fun h11 => ?_) (fun h11 => False.elim (by first | omega | simp_all))
  rcases (by omega : i = 0 ∨ i = 1 ∨ i = 2) with rfl | rfl | rfl
  · refine q_iload_n C dX7_change_20 21 2 rfl rfl ?_
    refine q_iload_n C dX7_change_21 22 1 rfl rfl ?_
    refine q_if_ne C dX7_change_22 25 30 rfl (by decide) (q_eq0 (by omega)) (fun h22 => False.elim (by first | omega | simp_all)) (fun h22 => ?_)
    refine q_bipush (v := nI 20) C dX7_change_25 27 rfl (by decide) ?_
    refine q_goto C dX7_change_27 31 (by decide) ?_
    refine q_iload_n C dX7_change_31 32 1 rfl rfl ?_
    refine q_if_ne C dX7_change_32 35 40 rfl (by decide) (q_eq0 (by omega)) (fun h32 => False.elim (by first | omega | simp_all)) (fun h32 => ?_)
    refine q_bipush (v := nI 120) C dX7_change_35 37 rfl (by decide) ?_
    refine q_goto C dX7_change_37 51 (by decide) ?_
    refine q_callS (n := 3) (rest := []) (Rr := [[(h0, .inr (6, [.int (nI 0), .ref aS, .ref aZ, .ref aV, .int (fd 4), .ref aN, .int (fd 6), .ref aU, .int (fd 8), .int (fd 9), .int (fd 10), .ref aD, .int (fd 12), .int (fd 13), .int (fd 14), .long hh]))]]) C (c_X7_in_f l hZ hI v (nI 20) (nI 120) hbad) gX7_change_X7_in rfl rfl rfl (by decide +kernel) B.1 ⟨Nat.le_of_ble_eq_true rfl, Nat.le_of_ble_eq_true rfl⟩ rfl rfl (Nat.le_of_ble_eq_true rfl) dX7_change_51 ⟨Nat.le_of_ble_eq_true rfl, Nat.le_of_ble_eq_true rfl⟩ [] [0] (by decide : ([] ++ ([0] : List Nat)).Perm (List.range 1)) rfl rfl 54 rfl (fun v0 R0 t0 ht0 hp0 => ?_)
    obtain ⟨rfl, rfl⟩ := hp0
    refine q_eqs (st' := [.int (nI 0)]) rfl ?_
    refine q_eqR (Rs' := [[(h0, .inr (6, [.int (nI 0), .ref aS, .ref aZ, .ref aV, .int (fd 4), .ref aN, .int (fd 6), .ref aU, .int (fd 8), .int (fd 9), .int (fd 10), .ref aD, .int (fd 12), .int (fd 13), .int (fd 14), .long hh]))]]) rfl ?_
    refine q_if_ne C dX7_change_54 57 63 rfl (by decide) (q_eq0 (by omega)) (fun h54 => False.elim (by first | omega | simp_all)) (fun h54 => ?_)
    refine q_aload_n C dX7_change_57 58 0 rfl rfl ?_
    refine q_iconst (v := nI 2) C dX7_change_58 59 rfl (by decide) ?_
    refine q_callV (k := 0) (ci := 6) (n := 1) (rest := []) (Rr := []) C rfl (k_isP_recv hPp2) rfl (c_X7_fails l hZ hI h0 aS aZ aV aN aU aD (upd fd 0 (nI 0)) hh ([(h0, .inr (6, [.int (nI 0), .ref aS, .ref aZ, .ref aV, .int (fd 4), .ref aN, .int (fd 6), .ref aU, .int (fd 8), .int (fd 9), .int (fd 10), .ref aD, .int (fd 12), .int (fd 13), .int (fd 14), .long hh]))]) hPp2 (nI 2)) gX7_change_X7_fails rfl rfl rfl (by decide +kernel) B.1 ⟨Nat.le_of_ble_eq_true rfl, Nat.le_of_ble_eq_true rfl⟩ rfl rfl (Nat.le_of_ble_eq_true rfl) dX7_change_59 ⟨Nat.le_of_ble_eq_true rfl, Nat.le_of_ble_eq_true rfl⟩ [0] [] (by decide : ([0] ++ ([] : List Nat)).Perm (List.range 1)) rfl rfl 62 rfl (fun v0 R0 t0 ht0 hp0 => ?_)
    obtain ⟨rfl, w_59, hw_59, rfl⟩ := hp0
    refine q_eqs (st' := [.int (nI 0)]) rfl ?_
    refine q_eqR (Rs' := [w_59]) rfl ?_
    exact q_iret C B dX7_change_62 rfl rfl (fun t0 ht0 => ⟨rfl, _, hw_59, by first | rfl | simp⟩)
  · refine q_iload_n C dX7_change_20 21 2 rfl rfl ?_
    refine q_iload_n C dX7_change_21 22 1 rfl rfl ?_
    refine q_if_ne C dX7_change_22 25 30 rfl (by decide) (q_eq0 (by omega)) (fun h22 => ?_) (fun h22 => False.elim (by first | omega | simp_all))
    refine q_iconst (v := nI 0) C dX7_change_30 31 rfl (by decide) ?_
    refine q_iload_n C dX7_change_31 32 1 rfl rfl ?_
    refine q_if_ne C dX7_change_32 35 40 rfl (by decide) (q_eq0 (by omega)) (fun h32 => ?_) (fun h32 => False.elim (by first | omega | simp_all))
    refine q_iload_n C dX7_change_40 41 1 rfl rfl ?_
    refine q_iconst (v := nI 1) C dX7_change_41 42 rfl (by decide) ?_
    refine q_icmp_ne C dX7_change_42 45 50 rfl (by decide) (nI_eq (by omega) (by omega)) (fun h42 => False.elim (by first | omega | simp_all)) (fun h42 => ?_)
    refine q_bipush (v := nI 9) C dX7_change_45 47 rfl (by decide) ?_
    refine q_goto C dX7_change_47 51 (by decide) ?_
    refine q_callS (n := 3) (rest := []) (Rr := [[(h0, .inr (6, [.int (nI 0), .ref aS, .ref aZ, .ref aV, .int (fd 4), .ref aN, .int (fd 6), .ref aU, .int (fd 8), .int (fd 9), .int (fd 10), .ref aD, .int (fd 12), .int (fd 13), .int (fd 14), .long hh]))]]) C (c_X7_in_f l hZ hI v (nI 0) (nI 9) hbad) gX7_change_X7_in rfl rfl rfl (by decide +kernel) B.1 ⟨Nat.le_of_ble_eq_true rfl, Nat.le_of_ble_eq_true rfl⟩ rfl rfl (Nat.le_of_ble_eq_true rfl) dX7_change_51 ⟨Nat.le_of_ble_eq_true rfl, Nat.le_of_ble_eq_true rfl⟩ [] [0] (by decide : ([] ++ ([0] : List Nat)).Perm (List.range 1)) rfl rfl 54 rfl (fun v0 R0 t0 ht0 hp0 => ?_)
    obtain ⟨rfl, rfl⟩ := hp0
    refine q_eqs (st' := [.int (nI 0)]) rfl ?_
    refine q_eqR (Rs' := [[(h0, .inr (6, [.int (nI 0), .ref aS, .ref aZ, .ref aV, .int (fd 4), .ref aN, .int (fd 6), .ref aU, .int (fd 8), .int (fd 9), .int (fd 10), .ref aD, .int (fd 12), .int (fd 13), .int (fd 14), .long hh]))]]) rfl ?_
    refine q_if_ne C dX7_change_54 57 63 rfl (by decide) (q_eq0 (by omega)) (fun h54 => False.elim (by first | omega | simp_all)) (fun h54 => ?_)
    refine q_aload_n C dX7_change_57 58 0 rfl rfl ?_
    refine q_iconst (v := nI 2) C dX7_change_58 59 rfl (by decide) ?_
    refine q_callV (k := 0) (ci := 6) (n := 1) (rest := []) (Rr := []) C rfl (k_isP_recv hPp2) rfl (c_X7_fails l hZ hI h0 aS aZ aV aN aU aD (upd fd 0 (nI 0)) hh ([(h0, .inr (6, [.int (nI 0), .ref aS, .ref aZ, .ref aV, .int (fd 4), .ref aN, .int (fd 6), .ref aU, .int (fd 8), .int (fd 9), .int (fd 10), .ref aD, .int (fd 12), .int (fd 13), .int (fd 14), .long hh]))]) hPp2 (nI 2)) gX7_change_X7_fails rfl rfl rfl (by decide +kernel) B.1 ⟨Nat.le_of_ble_eq_true rfl, Nat.le_of_ble_eq_true rfl⟩ rfl rfl (Nat.le_of_ble_eq_true rfl) dX7_change_59 ⟨Nat.le_of_ble_eq_true rfl, Nat.le_of_ble_eq_true rfl⟩ [0] [] (by decide : ([0] ++ ([] : List Nat)).Perm (List.range 1)) rfl rfl 62 rfl (fun v0 R0 t0 ht0 hp0 => ?_)
    obtain ⟨rfl, w_59, hw_59, rfl⟩ := hp0
    refine q_eqs (st' := [.int (nI 0)]) rfl ?_
    refine q_eqR (Rs' := [w_59]) rfl ?_
    exact q_iret C B dX7_change_62 rfl rfl (fun t0 ht0 => ⟨rfl, _, hw_59, by first | rfl | simp⟩)
  · refine q_iload_n C dX7_change_20 21 2 rfl rfl ?_
    refine q_iload_n C dX7_change_21 22 1 rfl rfl ?_
    refine q_if_ne C dX7_change_22 25 30 rfl (by decide) (q_eq0 (by omega)) (fun h22 => ?_) (fun h22 => False.elim (by first | omega | simp_all))
    refine q_iconst (v := nI 0) C dX7_change_30 31 rfl (by decide) ?_
    refine q_iload_n C dX7_change_31 32 1 rfl rfl ?_
    refine q_if_ne C dX7_change_32 35 40 rfl (by decide) (q_eq0 (by omega)) (fun h32 => ?_) (fun h32 => False.elim (by first | omega | simp_all))
    refine q_iload_n C dX7_change_40 41 1 rfl rfl ?_
    refine q_iconst (v := nI 1) C dX7_change_41 42 rfl (by decide) ?_
    refine q_icmp_ne C dX7_change_42 45 50 rfl (by decide) (nI_eq (by omega) (by omega)) (fun h42 => ?_) (fun h42 => False.elim (by first | omega | simp_all))
    refine q_iconst (v := nI 1) C dX7_change_50 51 rfl (by decide) ?_
    refine q_callS (n := 3) (rest := []) (Rr := [[(h0, .inr (6, [.int (nI 0), .ref aS, .ref aZ, .ref aV, .int (fd 4), .ref aN, .int (fd 6), .ref aU, .int (fd 8), .int (fd 9), .int (fd 10), .ref aD, .int (fd 12), .int (fd 13), .int (fd 14), .long hh]))]]) C (c_X7_in_f l hZ hI v (nI 0) (nI 1) hbad) gX7_change_X7_in rfl rfl rfl (by decide +kernel) B.1 ⟨Nat.le_of_ble_eq_true rfl, Nat.le_of_ble_eq_true rfl⟩ rfl rfl (Nat.le_of_ble_eq_true rfl) dX7_change_51 ⟨Nat.le_of_ble_eq_true rfl, Nat.le_of_ble_eq_true rfl⟩ [] [0] (by decide : ([] ++ ([0] : List Nat)).Perm (List.range 1)) rfl rfl 54 rfl (fun v0 R0 t0 ht0 hp0 => ?_)
    obtain ⟨rfl, rfl⟩ := hp0
    refine q_eqs (st' := [.int (nI 0)]) rfl ?_
    refine q_eqR (Rs' := [[(h0, .inr (6, [.int (nI 0), .ref aS, .ref aZ, .ref aV, .int (fd 4), .ref aN, .int (fd 6), .ref aU, .int (fd 8), .int (fd 9), .int (fd 10), .ref aD, .int (fd 12), .int (fd 13), .int (fd 14), .long hh]))]]) rfl ?_
    refine q_if_ne C dX7_change_54 57 63 rfl (by decide) (q_eq0 (by omega)) (fun h54 => False.elim (by first | omega | simp_all)) (fun h54 => ?_)
    refine q_aload_n C dX7_change_57 58 0 rfl rfl ?_
    refine q_iconst (v := nI 2) C dX7_change_58 59 rfl (by decide) ?_
    refine q_callV (k := 0) (ci := 6) (n := 1) (rest := []) (Rr := []) C rfl (k_isP_recv hPp2) rfl (c_X7_fails l hZ hI h0 aS aZ aV aN aU aD (upd fd 0 (nI 0)) hh ([(h0, .inr (6, [.int (nI 0), .ref aS, .ref aZ, .ref aV, .int (fd 4), .ref aN, .int (fd 6), .ref aU, .int (fd 8), .int (fd 9), .int (fd 10), .ref aD, .int (fd 12), .int (fd 13), .int (fd 14), .long hh]))]) hPp2 (nI 2)) gX7_change_X7_fails rfl rfl rfl (by decide +kernel) B.1 ⟨Nat.le_of_ble_eq_true rfl, Nat.le_of_ble_eq_true rfl⟩ rfl rfl (Nat.le_of_ble_eq_true rfl) dX7_change_59 ⟨Nat.le_of_ble_eq_true rfl, Nat.le_of_ble_eq_true rfl⟩ [0] [] (by decide : ([0] ++ ([] : List Nat)).Perm (List.range 1)) rfl rfl 62 rfl (fun v0 R0 t0 ht0 hp0 => ?_)
    obtain ⟨rfl, w_59, hw_59, rfl⟩ := hp0
    refine q_eqs (st' := [.int (nI 0)]) rfl ?_
    refine q_eqR (Rs' := [w_59]) rfl ?_
    exact q_iret C B dX7_change_62 rfl rfl (fun t0 ht0 => ⟨rfl, _, hw_59, by first | rfl | simp⟩)

set_option maxHeartbeats 400000 in
set_option maxRecDepth 100000 in
theorem c_X7_change_c (l : Launch) {D : va_G} {tys : List (ClassId × FieldType)} {Z : (Nat → Prop) → State → Heap → Prop} (hZ : q_St Z) {cI : ClassId} (hI : tys[0]? = some (cI, .int)) (h0 : Nat) (aS : Nat) (aZ : Nat) (aV : Nat) (aN : Nat) (aU : Nat) (aD : Nat) (fd : Nat → Int32) (hh : Int64) (wP : va_W) (hP : k_isP cI h0 aS aZ aV aN aU aD fd hh wP) (bx : k_Bx) (at0 : Nat) (ln : List (Nat × Nat)) (sc : Nat → Int32) (wQ : va_W) (hQ : k_isQ cI aS bx at0 ln sc wQ) (sv : List k_S) (wV : va_W) (hV : k_isV cI aV sv wV) (i : Nat) (v : Int32) (hi : i < 3) (hgood : k_lo i ≤ v ∧ v ≤ k_hi i) (h4 : fd 4 = nI sv.length) : q_Ct l D tys Z yX7_change wsX7_change ({ frames := 2, cells := 0, slots := 0, locals := 72 } : Room) 0 0 [.ref h0, .int (nI i), .int v] [wP, wQ, wV] (fun v0 R0 _ => v0 = some (.int (sc i)) ∧ ∃ wP', k_isP cI h0 aS aZ aV aN aU aD (upd (upd fd 0 (nI 0)) 4 (nI (k_sav sv (bx, at0, ln, sc)).length)) hh wP' ∧ ∃ wQ', k_isQ cI aS bx at0 ln (upd (upd sc i v) 3 (-1)) wQ' ∧ ∃ wV', k_isV cI aV (k_sav sv (bx, at0, ln, sc)) wV' ∧ R0 = [wP', wQ', wV']) := by
  have hcI := hI
  refine q_ct (cc := cX7_change) (maxL := 4) (ret := (some .int)) (own := RX7) (by decide) rfl hZ (Nat.le_of_ble_eq_true rfl) rfl ?_
  intro p9 e9 R s9 m9 args below meth c9 A Q C B
  have hts := C.2.2.2.2.1
  have hinX7 : ∀ w ∈ u_ws RX7 TX7 16, w ∈ wsX7_change := by decide +kernel
  have f28 := hts (.fieldLink RX7 28 "SortCasesModel" "thrown" "I") (by decide +kernel)
  have f7 := hts (.fieldLink RX7 7 "SortCasesModel" "s" "[I") (by decide +kernel)
  refine q_eqL (L' := [(0, .ref h0), (1, .int (nI i)), (2, .int v)]) rfl ?_
  refine q_aload_n C dX7_change_0 1 0 rfl rfl ?_
  refine q_iconst (v := nI 0) C dX7_change_1 2 rfl (by decide) ?_
  obtain rfl := hP
  have hPo1 : k_isP cI h0 aS aZ aV aN aU aD fd hh [(h0, .inr (6, [.int (fd 0), .ref aS, .ref aZ, .ref aV, .int (fd 4), .ref aN, .int (fd 6), .ref aU, .int (fd 8), .int (fd 9), .int (fd 10), .ref aD, .int (fd 12), .int (fd 13), .int (fd 14), .long hh]))] := rfl
  refine q_put (k := 0) (j := 0) (f := 0) C hinX7 tyX7 tyX7_ok nmX7 f28 (fun _ h => h) (by decide) rfl rfl (tyX7_ok 0 (by decide)) rfl rfl dX7_change_2 5 rfl rfl rfl (Nat.le_of_ble_eq_true rfl) [[(h0, .inr (6, [.int (nI 0), .ref aS, .ref aZ, .ref aV, .int (fd 4), .ref aN, .int (fd 6), .ref aU, .int (fd 8), .int (fd 9), .int (fd 10), .ref aD, .int (fd 12), .int (fd 13), .int (fd 14), .long hh]))], wQ, wV] rfl ?_
  have hPp2 : k_isP cI h0 aS aZ aV aN aU aD (upd fd 0 (nI 0)) hh [(h0, .inr (6, [.int (nI 0), .ref aS, .ref aZ, .ref aV, .int (fd 4), .ref aN, .int (fd 6), .ref aU, .int (fd 8), .int (fd 9), .int (fd 10), .ref aD, .int (fd 12), .int (fd 13), .int (fd 14), .long hh]))] := rfl
  refine q_iload_n C dX7_change_5 6 1 rfl rfl ?_
  refine q_iconst (v := nI 0) C dX7_change_6 7 rfl (by decide) ?_
  refine q_iconst (v := nI 2) C dX7_change_7 8 rfl (by decide) ?_
  refine q_callS (n := 3) (rest := []) (Rr := [[(h0, .inr (6, [.int (nI 0), .ref aS, .ref aZ, .ref aV, .int (fd 4), .ref aN, .int (fd 6), .ref aU, .int (fd 8), .int (fd 9), .int (fd 10), .ref aD, .int (fd 12), .int (fd 13), .int (fd 14), .long hh]))], wQ, wV]) C (c_X7_in_t l hZ hI (nI i) (nI 0) (nI 2) (k_in2 (by omega) (by omega) (by omega))) gX7_change_X7_in rfl rfl rfl (by decide +kernel) B.1 ⟨Nat.le_of_ble_eq_true rfl, Nat.le_of_ble_eq_true rfl⟩ rfl rfl (Nat.le_of_ble_eq_true rfl) dX7_change_8 ⟨Nat.le_of_ble_eq_true rfl, Nat.le_of_ble_eq_true rfl⟩ [] [0, 1, 2] (by decide : ([] ++ ([0, 1, 2] : List Nat)).Perm (List.range 3)) rfl rfl 11 rfl (fun v0 R0 t0 ht0 hp0 => ?_)
  obtain ⟨rfl, rfl⟩ := hp0
  refine q_eqs (st' := [.int (nI 1)]) rfl ?_
  refine q_eqR (Rs' := [[(h0, .inr (6, [.int (nI 0), .ref aS, .ref aZ, .ref aV, .int (fd 4), .ref aN, .int (fd 6), .ref aU, .int (fd 8), .int (fd 9), .int (fd 10), .ref aD, .int (fd 12), .int (fd 13), .int (fd 14), .long hh]))], wQ, wV]) rfl ?_
  refine q_if_ne C dX7_change_11 14 20 rfl (by decide) (q_eq0 (by omega)) (fun h11 => ?_) (fun h11 => False.elim (by first | omega | simp_all))
  rcases (by omega : i = 0 ∨ i = 1 ∨ i = 2) with rfl | rfl | rfl
  · refine q_iload_n C dX7_change_20 21 2 rfl rfl ?_
    refine q_iload_n C dX7_change_21 22 1 rfl rfl ?_
    refine q_if_ne C dX7_change_22 25 30 rfl (by decide) (q_eq0 (by omega)) (fun h22 => False.elim (by first | omega | simp_all)) (fun h22 => ?_)
    refine q_bipush (v := nI 20) C dX7_change_25 27 rfl (by decide) ?_
    refine q_goto C dX7_change_27 31 (by decide) ?_
    refine q_iload_n C dX7_change_31 32 1 rfl rfl ?_
    refine q_if_ne C dX7_change_32 35 40 rfl (by decide) (q_eq0 (by omega)) (fun h32 => False.elim (by first | omega | simp_all)) (fun h32 => ?_)
    refine q_bipush (v := nI 120) C dX7_change_35 37 rfl (by decide) ?_
    refine q_goto C dX7_change_37 51 (by decide) ?_
    refine q_callS (n := 3) (rest := []) (Rr := [[(h0, .inr (6, [.int (nI 0), .ref aS, .ref aZ, .ref aV, .int (fd 4), .ref aN, .int (fd 6), .ref aU, .int (fd 8), .int (fd 9), .int (fd 10), .ref aD, .int (fd 12), .int (fd 13), .int (fd 14), .long hh]))], wQ, wV]) C (c_X7_in_t l hZ hI v (nI 20) (nI 120) hgood) gX7_change_X7_in rfl rfl rfl (by decide +kernel) B.1 ⟨Nat.le_of_ble_eq_true rfl, Nat.le_of_ble_eq_true rfl⟩ rfl rfl (Nat.le_of_ble_eq_true rfl) dX7_change_51 ⟨Nat.le_of_ble_eq_true rfl, Nat.le_of_ble_eq_true rfl⟩ [] [0, 1, 2] (by decide : ([] ++ ([0, 1, 2] : List Nat)).Perm (List.range 3)) rfl rfl 54 rfl (fun v0 R0 t0 ht0 hp0 => ?_)
    obtain ⟨rfl, rfl⟩ := hp0
    refine q_eqs (st' := [.int (nI 1)]) rfl ?_
    refine q_eqR (Rs' := [[(h0, .inr (6, [.int (nI 0), .ref aS, .ref aZ, .ref aV, .int (fd 4), .ref aN, .int (fd 6), .ref aU, .int (fd 8), .int (fd 9), .int (fd 10), .ref aD, .int (fd 12), .int (fd 13), .int (fd 14), .long hh]))], wQ, wV]) rfl ?_
    refine q_if_ne C dX7_change_54 57 63 rfl (by decide) (q_eq0 (by omega)) (fun h54 => ?_) (fun h54 => False.elim (by first | omega | simp_all))
    refine q_aload_n C dX7_change_63 64 0 rfl rfl ?_
    refine q_callV (k := 0) (ci := 6) (n := 0) (rest := []) (Rr := []) C rfl (k_isP_recv hPp2) rfl (c_X7_saves l hZ hI h0 aS aZ aV aN aU aD (upd fd 0 (nI 0)) hh ([(h0, .inr (6, [.int (nI 0), .ref aS, .ref aZ, .ref aV, .int (fd 4), .ref aN, .int (fd 6), .ref aU, .int (fd 8), .int (fd 9), .int (fd 10), .ref aD, .int (fd 12), .int (fd 13), .int (fd 14), .long hh]))]) hPp2 bx at0 ln sc wQ hQ sv wV hV h4) gX7_change_X7_saves rfl rfl rfl (by decide +kernel) B.1 ⟨Nat.le_of_ble_eq_true rfl, Nat.le_of_ble_eq_true rfl⟩ rfl rfl (Nat.le_of_ble_eq_true rfl) dX7_change_64 ⟨Nat.le_of_ble_eq_true rfl, Nat.le_of_ble_eq_true rfl⟩ [0, 1, 2] [] (by decide : ([0, 1, 2] ++ ([] : List Nat)).Perm (List.range 3)) rfl rfl 67 rfl (fun v0 R0 t0 ht0 hp0 => ?_)
    obtain ⟨rfl, wP_64, hwP_64, wV_64, hwV_64, rfl⟩ := hp0
    refine q_eqs (st' := []) rfl ?_
    refine q_eqR (Rs' := [wP_64, wQ, wV_64]) rfl ?_
    refine q_aload_n C dX7_change_67 68 0 rfl rfl ?_
    obtain rfl := hwP_64
    have hPo3 : k_isP cI h0 aS aZ aV aN aU aD (upd (upd fd 0 (nI 0)) 4 (nI (k_sav sv (bx, at0, ln, sc)).length)) hh [(h0, .inr (6, [.int (nI 0), .ref aS, .ref aZ, .ref aV, .int (nI (((k_sav sv (bx, at0, ln, sc)).length))), .ref aN, .int (fd 6), .ref aU, .int (fd 8), .int (fd 9), .int (fd 10), .ref aD, .int (fd 12), .int (fd 13), .int (fd 14), .long hh]))] := rfl
    refine q_get (k := 0) (j := 0) (f := 1) C hinX7 f7 (fun _ h => h) (by decide) rfl dX7_change_68 71 rfl rfl rfl rfl ?_
    refine q_iload_n C dX7_change_71 72 1 rfl rfl ?_
    obtain ⟨hat4, hok4, hlok4, f4, hm4, rfl⟩ := hQ
    have hll4 := hlok4.1
    have hQo4 : k_isQ cI aS bx at0 ln sc [(aS, .inl (cI, 350, .inl f4))] := ⟨hat4, hok4, hlok4, f4, hm4, rfl⟩
    refine q_iald (k := 1) (j := 0) (v := sc 0) C dX7_change_72 73 rfl rfl rfl hcI 0 rfl (by omega) (by decide) (hm4.1 0 (by decide) (by decide)) ?_
    refine q_istore_n C dX7_change_73 74 rfl [(3, .int (sc 0)), (0, .ref h0), (1, .int (nI 0)), (2, .int v)] (by decide) rfl ?_
    refine q_aload_n C dX7_change_74 75 1 rfl rfl ?_
    refine q_get (k := 0) (j := 0) (f := 1) C hinX7 f7 (fun _ h => h) (by decide) rfl dX7_change_75 78 rfl rfl rfl rfl ?_
    refine q_iload_n C dX7_change_78 79 2 rfl rfl ?_
    refine q_iload_n C dX7_change_79 80 3 rfl rfl ?_
    refine q_iast (k := 1) (j := 0) C dX7_change_80 81 rfl rfl rfl hcI 0 rfl (by omega) (by decide) [[(h0, .inr (6, [.int (nI 0), .ref aS, .ref aZ, .ref aV, .int (nI (((k_sav sv (bx, at0, ln, sc)).length))), .ref aN, .int (fd 6), .ref aU, .int (fd 8), .int (fd 9), .int (fd 10), .ref aD, .int (fd 12), .int (fd 13), .int (fd 14), .long hh]))], [(aS, .inl (cI, 350, .inl (upd f4 0 v)))], wV_64] rfl ?_
    have hmf5 : k_MR (upd f4 0 v) bx at0 ln (upd sc 0 v) := k_MR_sc hm4 (by decide) (by decide)
    have haf5 : at0 < 12 := hat4
    have hQf5 : k_isQ cI aS bx at0 ln (upd sc 0 v) [(aS, .inl (cI, 350, .inl (upd f4 0 v)))] := ⟨haf5, hok4, hlok4, _, hmf5, rfl⟩
    refine q_aload_n C dX7_change_81 82 1 rfl rfl ?_
    refine q_get (k := 0) (j := 0) (f := 1) C hinX7 f7 (fun _ h => h) (by decide) rfl dX7_change_82 85 rfl rfl rfl rfl ?_
    refine q_iconst (v := nI 3) C dX7_change_85 86 rfl (by decide) ?_
    refine q_iconst (v := -1) C dX7_change_86 87 rfl (by decide) ?_
    refine q_iast (k := 1) (j := 0) C dX7_change_87 88 rfl rfl rfl hcI 3 rfl (by omega) (by decide) [[(h0, .inr (6, [.int (nI 0), .ref aS, .ref aZ, .ref aV, .int (nI (((k_sav sv (bx, at0, ln, sc)).length))), .ref aN, .int (fd 6), .ref aU, .int (fd 8), .int (fd 9), .int (fd 10), .ref aD, .int (fd 12), .int (fd 13), .int (fd 14), .long hh]))], [(aS, .inl (cI, 350, .inl (upd (upd f4 0 v) 3 (-1))))], wV_64] rfl ?_
    have hmf6 : k_MR (upd (upd f4 0 v) 3 (-1)) bx at0 ln (upd (upd sc 0 v) 3 (-1)) := k_MR_sc hmf5 (by decide) (by decide)
    have haf6 : at0 < 12 := haf5
    have hQf6 : k_isQ cI aS bx at0 ln (upd (upd sc 0 v) 3 (-1)) [(aS, .inl (cI, 350, .inl (upd (upd f4 0 v) 3 (-1))))] := ⟨haf6, hok4, hlok4, _, hmf6, rfl⟩
    refine q_iload_n C dX7_change_88 89 0 rfl rfl ?_
    exact q_iret C B dX7_change_89 rfl rfl (fun t0 ht0 => ⟨rfl, _, hPo3, _, hQf6, _, hwV_64, by first | rfl | simp⟩)
  · refine q_iload_n C dX7_change_20 21 2 rfl rfl ?_
    refine q_iload_n C dX7_change_21 22 1 rfl rfl ?_
    refine q_if_ne C dX7_change_22 25 30 rfl (by decide) (q_eq0 (by omega)) (fun h22 => ?_) (fun h22 => False.elim (by first | omega | simp_all))
    refine q_iconst (v := nI 0) C dX7_change_30 31 rfl (by decide) ?_
    refine q_iload_n C dX7_change_31 32 1 rfl rfl ?_
    refine q_if_ne C dX7_change_32 35 40 rfl (by decide) (q_eq0 (by omega)) (fun h32 => ?_) (fun h32 => False.elim (by first | omega | simp_all))
    refine q_iload_n C dX7_change_40 41 1 rfl rfl ?_
    refine q_iconst (v := nI 1) C dX7_change_41 42 rfl (by decide) ?_
    refine q_icmp_ne C dX7_change_42 45 50 rfl (by decide) (nI_eq (by omega) (by omega)) (fun h42 => False.elim (by first | omega | simp_all)) (fun h42 => ?_)
    refine q_bipush (v := nI 9) C dX7_change_45 47 rfl (by decide) ?_
    refine q_goto C dX7_change_47 51 (by decide) ?_
    refine q_callS (n := 3) (rest := []) (Rr := [[(h0, .inr (6, [.int (nI 0), .ref aS, .ref aZ, .ref aV, .int (fd 4), .ref aN, .int (fd 6), .ref aU, .int (fd 8), .int (fd 9), .int (fd 10), .ref aD, .int (fd 12), .int (fd 13), .int (fd 14), .long hh]))], wQ, wV]) C (c_X7_in_t l hZ hI v (nI 0) (nI 9) hgood) gX7_change_X7_in rfl rfl rfl (by decide +kernel) B.1 ⟨Nat.le_of_ble_eq_true rfl, Nat.le_of_ble_eq_true rfl⟩ rfl rfl (Nat.le_of_ble_eq_true rfl) dX7_change_51 ⟨Nat.le_of_ble_eq_true rfl, Nat.le_of_ble_eq_true rfl⟩ [] [0, 1, 2] (by decide : ([] ++ ([0, 1, 2] : List Nat)).Perm (List.range 3)) rfl rfl 54 rfl (fun v0 R0 t0 ht0 hp0 => ?_)
    obtain ⟨rfl, rfl⟩ := hp0
    refine q_eqs (st' := [.int (nI 1)]) rfl ?_
    refine q_eqR (Rs' := [[(h0, .inr (6, [.int (nI 0), .ref aS, .ref aZ, .ref aV, .int (fd 4), .ref aN, .int (fd 6), .ref aU, .int (fd 8), .int (fd 9), .int (fd 10), .ref aD, .int (fd 12), .int (fd 13), .int (fd 14), .long hh]))], wQ, wV]) rfl ?_
    refine q_if_ne C dX7_change_54 57 63 rfl (by decide) (q_eq0 (by omega)) (fun h54 => ?_) (fun h54 => False.elim (by first | omega | simp_all))
    refine q_aload_n C dX7_change_63 64 0 rfl rfl ?_
    refine q_callV (k := 0) (ci := 6) (n := 0) (rest := []) (Rr := []) C rfl (k_isP_recv hPp2) rfl (c_X7_saves l hZ hI h0 aS aZ aV aN aU aD (upd fd 0 (nI 0)) hh ([(h0, .inr (6, [.int (nI 0), .ref aS, .ref aZ, .ref aV, .int (fd 4), .ref aN, .int (fd 6), .ref aU, .int (fd 8), .int (fd 9), .int (fd 10), .ref aD, .int (fd 12), .int (fd 13), .int (fd 14), .long hh]))]) hPp2 bx at0 ln sc wQ hQ sv wV hV h4) gX7_change_X7_saves rfl rfl rfl (by decide +kernel) B.1 ⟨Nat.le_of_ble_eq_true rfl, Nat.le_of_ble_eq_true rfl⟩ rfl rfl (Nat.le_of_ble_eq_true rfl) dX7_change_64 ⟨Nat.le_of_ble_eq_true rfl, Nat.le_of_ble_eq_true rfl⟩ [0, 1, 2] [] (by decide : ([0, 1, 2] ++ ([] : List Nat)).Perm (List.range 3)) rfl rfl 67 rfl (fun v0 R0 t0 ht0 hp0 => ?_)
    obtain ⟨rfl, wP_64, hwP_64, wV_64, hwV_64, rfl⟩ := hp0
    refine q_eqs (st' := []) rfl ?_
    refine q_eqR (Rs' := [wP_64, wQ, wV_64]) rfl ?_
    refine q_aload_n C dX7_change_67 68 0 rfl rfl ?_
    obtain rfl := hwP_64
    have hPo7 : k_isP cI h0 aS aZ aV aN aU aD (upd (upd fd 0 (nI 0)) 4 (nI (k_sav sv (bx, at0, ln, sc)).length)) hh [(h0, .inr (6, [.int (nI 0), .ref aS, .ref aZ, .ref aV, .int (nI (((k_sav sv (bx, at0, ln, sc)).length))), .ref aN, .int (fd 6), .ref aU, .int (fd 8), .int (fd 9), .int (fd 10), .ref aD, .int (fd 12), .int (fd 13), .int (fd 14), .long hh]))] := rfl
    refine q_get (k := 0) (j := 0) (f := 1) C hinX7 f7 (fun _ h => h) (by decide) rfl dX7_change_68 71 rfl rfl rfl rfl ?_
    refine q_iload_n C dX7_change_71 72 1 rfl rfl ?_
    obtain ⟨hat8, hok8, hlok8, f8, hm8, rfl⟩ := hQ
    have hll8 := hlok8.1
    have hQo8 : k_isQ cI aS bx at0 ln sc [(aS, .inl (cI, 350, .inl f8))] := ⟨hat8, hok8, hlok8, f8, hm8, rfl⟩
    refine q_iald (k := 1) (j := 0) (v := sc 1) C dX7_change_72 73 rfl rfl rfl hcI 1 rfl (by omega) (by decide) (hm8.1 1 (by decide) (by decide)) ?_
    refine q_istore_n C dX7_change_73 74 rfl [(3, .int (sc 1)), (0, .ref h0), (1, .int (nI 1)), (2, .int v)] (by decide) rfl ?_
    refine q_aload_n C dX7_change_74 75 1 rfl rfl ?_
    refine q_get (k := 0) (j := 0) (f := 1) C hinX7 f7 (fun _ h => h) (by decide) rfl dX7_change_75 78 rfl rfl rfl rfl ?_
    refine q_iload_n C dX7_change_78 79 2 rfl rfl ?_
    refine q_iload_n C dX7_change_79 80 3 rfl rfl ?_
    refine q_iast (k := 1) (j := 0) C dX7_change_80 81 rfl rfl rfl hcI 1 rfl (by omega) (by decide) [[(h0, .inr (6, [.int (nI 0), .ref aS, .ref aZ, .ref aV, .int (nI (((k_sav sv (bx, at0, ln, sc)).length))), .ref aN, .int (fd 6), .ref aU, .int (fd 8), .int (fd 9), .int (fd 10), .ref aD, .int (fd 12), .int (fd 13), .int (fd 14), .long hh]))], [(aS, .inl (cI, 350, .inl (upd f8 1 v)))], wV_64] rfl ?_
    have hmf9 : k_MR (upd f8 1 v) bx at0 ln (upd sc 1 v) := k_MR_sc hm8 (by decide) (by decide)
    have haf9 : at0 < 12 := hat8
    have hQf9 : k_isQ cI aS bx at0 ln (upd sc 1 v) [(aS, .inl (cI, 350, .inl (upd f8 1 v)))] := ⟨haf9, hok8, hlok8, _, hmf9, rfl⟩
    refine q_aload_n C dX7_change_81 82 1 rfl rfl ?_
    refine q_get (k := 0) (j := 0) (f := 1) C hinX7 f7 (fun _ h => h) (by decide) rfl dX7_change_82 85 rfl rfl rfl rfl ?_
    refine q_iconst (v := nI 3) C dX7_change_85 86 rfl (by decide) ?_
    refine q_iconst (v := -1) C dX7_change_86 87 rfl (by decide) ?_
    refine q_iast (k := 1) (j := 0) C dX7_change_87 88 rfl rfl rfl hcI 3 rfl (by omega) (by decide) [[(h0, .inr (6, [.int (nI 0), .ref aS, .ref aZ, .ref aV, .int (nI (((k_sav sv (bx, at0, ln, sc)).length))), .ref aN, .int (fd 6), .ref aU, .int (fd 8), .int (fd 9), .int (fd 10), .ref aD, .int (fd 12), .int (fd 13), .int (fd 14), .long hh]))], [(aS, .inl (cI, 350, .inl (upd (upd f8 1 v) 3 (-1))))], wV_64] rfl ?_
    have hmf10 : k_MR (upd (upd f8 1 v) 3 (-1)) bx at0 ln (upd (upd sc 1 v) 3 (-1)) := k_MR_sc hmf9 (by decide) (by decide)
    have haf10 : at0 < 12 := haf9
    have hQf10 : k_isQ cI aS bx at0 ln (upd (upd sc 1 v) 3 (-1)) [(aS, .inl (cI, 350, .inl (upd (upd f8 1 v) 3 (-1))))] := ⟨haf10, hok8, hlok8, _, hmf10, rfl⟩
    refine q_iload_n C dX7_change_88 89 0 rfl rfl ?_
    exact q_iret C B dX7_change_89 rfl rfl (fun t0 ht0 => ⟨rfl, _, hPo7, _, hQf10, _, hwV_64, by first | rfl | simp⟩)
  · refine q_iload_n C dX7_change_20 21 2 rfl rfl ?_
    refine q_iload_n C dX7_change_21 22 1 rfl rfl ?_
    refine q_if_ne C dX7_change_22 25 30 rfl (by decide) (q_eq0 (by omega)) (fun h22 => ?_) (fun h22 => False.elim (by first | omega | simp_all))
    refine q_iconst (v := nI 0) C dX7_change_30 31 rfl (by decide) ?_
    refine q_iload_n C dX7_change_31 32 1 rfl rfl ?_
    refine q_if_ne C dX7_change_32 35 40 rfl (by decide) (q_eq0 (by omega)) (fun h32 => ?_) (fun h32 => False.elim (by first | omega | simp_all))
    refine q_iload_n C dX7_change_40 41 1 rfl rfl ?_
    refine q_iconst (v := nI 1) C dX7_change_41 42 rfl (by decide) ?_
    refine q_icmp_ne C dX7_change_42 45 50 rfl (by decide) (nI_eq (by omega) (by omega)) (fun h42 => ?_) (fun h42 => False.elim (by first | omega | simp_all))
    refine q_iconst (v := nI 1) C dX7_change_50 51 rfl (by decide) ?_
    refine q_callS (n := 3) (rest := []) (Rr := [[(h0, .inr (6, [.int (nI 0), .ref aS, .ref aZ, .ref aV, .int (fd 4), .ref aN, .int (fd 6), .ref aU, .int (fd 8), .int (fd 9), .int (fd 10), .ref aD, .int (fd 12), .int (fd 13), .int (fd 14), .long hh]))], wQ, wV]) C (c_X7_in_t l hZ hI v (nI 0) (nI 1) hgood) gX7_change_X7_in rfl rfl rfl (by decide +kernel) B.1 ⟨Nat.le_of_ble_eq_true rfl, Nat.le_of_ble_eq_true rfl⟩ rfl rfl (Nat.le_of_ble_eq_true rfl) dX7_change_51 ⟨Nat.le_of_ble_eq_true rfl, Nat.le_of_ble_eq_true rfl⟩ [] [0, 1, 2] (by decide : ([] ++ ([0, 1, 2] : List Nat)).Perm (List.range 3)) rfl rfl 54 rfl (fun v0 R0 t0 ht0 hp0 => ?_)
    obtain ⟨rfl, rfl⟩ := hp0
    refine q_eqs (st' := [.int (nI 1)]) rfl ?_
    refine q_eqR (Rs' := [[(h0, .inr (6, [.int (nI 0), .ref aS, .ref aZ, .ref aV, .int (fd 4), .ref aN, .int (fd 6), .ref aU, .int (fd 8), .int (fd 9), .int (fd 10), .ref aD, .int (fd 12), .int (fd 13), .int (fd 14), .long hh]))], wQ, wV]) rfl ?_
    refine q_if_ne C dX7_change_54 57 63 rfl (by decide) (q_eq0 (by omega)) (fun h54 => ?_) (fun h54 => False.elim (by first | omega | simp_all))
    refine q_aload_n C dX7_change_63 64 0 rfl rfl ?_
    refine q_callV (k := 0) (ci := 6) (n := 0) (rest := []) (Rr := []) C rfl (k_isP_recv hPp2) rfl (c_X7_saves l hZ hI h0 aS aZ aV aN aU aD (upd fd 0 (nI 0)) hh ([(h0, .inr (6, [.int (nI 0), .ref aS, .ref aZ, .ref aV, .int (fd 4), .ref aN, .int (fd 6), .ref aU, .int (fd 8), .int (fd 9), .int (fd 10), .ref aD, .int (fd 12), .int (fd 13), .int (fd 14), .long hh]))]) hPp2 bx at0 ln sc wQ hQ sv wV hV h4) gX7_change_X7_saves rfl rfl rfl (by decide +kernel) B.1 ⟨Nat.le_of_ble_eq_true rfl, Nat.le_of_ble_eq_true rfl⟩ rfl rfl (Nat.le_of_ble_eq_true rfl) dX7_change_64 ⟨Nat.le_of_ble_eq_true rfl, Nat.le_of_ble_eq_true rfl⟩ [0, 1, 2] [] (by decide : ([0, 1, 2] ++ ([] : List Nat)).Perm (List.range 3)) rfl rfl 67 rfl (fun v0 R0 t0 ht0 hp0 => ?_)
    obtain ⟨rfl, wP_64, hwP_64, wV_64, hwV_64, rfl⟩ := hp0
    refine q_eqs (st' := []) rfl ?_
    refine q_eqR (Rs' := [wP_64, wQ, wV_64]) rfl ?_
    refine q_aload_n C dX7_change_67 68 0 rfl rfl ?_
    obtain rfl := hwP_64
    have hPo11 : k_isP cI h0 aS aZ aV aN aU aD (upd (upd fd 0 (nI 0)) 4 (nI (k_sav sv (bx, at0, ln, sc)).length)) hh [(h0, .inr (6, [.int (nI 0), .ref aS, .ref aZ, .ref aV, .int (nI (((k_sav sv (bx, at0, ln, sc)).length))), .ref aN, .int (fd 6), .ref aU, .int (fd 8), .int (fd 9), .int (fd 10), .ref aD, .int (fd 12), .int (fd 13), .int (fd 14), .long hh]))] := rfl
    refine q_get (k := 0) (j := 0) (f := 1) C hinX7 f7 (fun _ h => h) (by decide) rfl dX7_change_68 71 rfl rfl rfl rfl ?_
    refine q_iload_n C dX7_change_71 72 1 rfl rfl ?_
    obtain ⟨hat12, hok12, hlok12, f12, hm12, rfl⟩ := hQ
    have hll12 := hlok12.1
    have hQo12 : k_isQ cI aS bx at0 ln sc [(aS, .inl (cI, 350, .inl f12))] := ⟨hat12, hok12, hlok12, f12, hm12, rfl⟩
    refine q_iald (k := 1) (j := 0) (v := sc 2) C dX7_change_72 73 rfl rfl rfl hcI 2 rfl (by omega) (by decide) (hm12.1 2 (by decide) (by decide)) ?_
    refine q_istore_n C dX7_change_73 74 rfl [(3, .int (sc 2)), (0, .ref h0), (1, .int (nI 2)), (2, .int v)] (by decide) rfl ?_
    refine q_aload_n C dX7_change_74 75 1 rfl rfl ?_
    refine q_get (k := 0) (j := 0) (f := 1) C hinX7 f7 (fun _ h => h) (by decide) rfl dX7_change_75 78 rfl rfl rfl rfl ?_
    refine q_iload_n C dX7_change_78 79 2 rfl rfl ?_
    refine q_iload_n C dX7_change_79 80 3 rfl rfl ?_
    refine q_iast (k := 1) (j := 0) C dX7_change_80 81 rfl rfl rfl hcI 2 rfl (by omega) (by decide) [[(h0, .inr (6, [.int (nI 0), .ref aS, .ref aZ, .ref aV, .int (nI (((k_sav sv (bx, at0, ln, sc)).length))), .ref aN, .int (fd 6), .ref aU, .int (fd 8), .int (fd 9), .int (fd 10), .ref aD, .int (fd 12), .int (fd 13), .int (fd 14), .long hh]))], [(aS, .inl (cI, 350, .inl (upd f12 2 v)))], wV_64] rfl ?_
    have hmf13 : k_MR (upd f12 2 v) bx at0 ln (upd sc 2 v) := k_MR_sc hm12 (by decide) (by decide)
    have haf13 : at0 < 12 := hat12
    have hQf13 : k_isQ cI aS bx at0 ln (upd sc 2 v) [(aS, .inl (cI, 350, .inl (upd f12 2 v)))] := ⟨haf13, hok12, hlok12, _, hmf13, rfl⟩
    refine q_aload_n C dX7_change_81 82 1 rfl rfl ?_
    refine q_get (k := 0) (j := 0) (f := 1) C hinX7 f7 (fun _ h => h) (by decide) rfl dX7_change_82 85 rfl rfl rfl rfl ?_
    refine q_iconst (v := nI 3) C dX7_change_85 86 rfl (by decide) ?_
    refine q_iconst (v := -1) C dX7_change_86 87 rfl (by decide) ?_
    refine q_iast (k := 1) (j := 0) C dX7_change_87 88 rfl rfl rfl hcI 3 rfl (by omega) (by decide) [[(h0, .inr (6, [.int (nI 0), .ref aS, .ref aZ, .ref aV, .int (nI (((k_sav sv (bx, at0, ln, sc)).length))), .ref aN, .int (fd 6), .ref aU, .int (fd 8), .int (fd 9), .int (fd 10), .ref aD, .int (fd 12), .int (fd 13), .int (fd 14), .long hh]))], [(aS, .inl (cI, 350, .inl (upd (upd f12 2 v) 3 (-1))))], wV_64] rfl ?_
    have hmf14 : k_MR (upd (upd f12 2 v) 3 (-1)) bx at0 ln (upd (upd sc 2 v) 3 (-1)) := k_MR_sc hmf13 (by decide) (by decide)
    have haf14 : at0 < 12 := haf13
    have hQf14 : k_isQ cI aS bx at0 ln (upd (upd sc 2 v) 3 (-1)) [(aS, .inl (cI, 350, .inl (upd (upd f12 2 v) 3 (-1))))] := ⟨haf14, hok12, hlok12, _, hmf14, rfl⟩
    refine q_iload_n C dX7_change_88 89 0 rfl rfl ?_
    exact q_iret C B dX7_change_89 rfl rfl (fun t0 ht0 => ⟨rfl, _, hPo11, _, hQf14, _, hwV_64, by first | rfl | simp⟩)

set_option maxHeartbeats 400000 in
set_option maxRecDepth 100000 in
theorem c_X7_stopped_a (l : Launch) {D : va_G} {tys : List (ClassId × FieldType)} {Z : (Nat → Prop) → State → Heap → Prop} (hZ : q_St Z) {cI : ClassId} (hI : tys[0]? = some (cI, .int)) (h0 : Nat) (aS : Nat) (aZ : Nat) (aV : Nat) (aN : Nat) (aU : Nat) (aD : Nat) (fd : Nat → Int32) (hh : Int64) (w : va_W) (h : k_isP cI h0 aS aZ aV aN aU aD fd hh w) (v : Int32) (hbad : ¬ (nI 0 ≤ v ∧ v ≤ nI 1)) : q_Ct l D tys Z yX7_stopped wsX7_stopped ({ frames := 2, cells := 0, slots := 0, locals := 72 } : Room) 0 0 [.ref h0, .int v] [w] (fun v0 R0 _ => v0 = some (.int (nI 0)) ∧ ∃ w', k_isP cI h0 aS aZ aV aN aU aD (upd (upd fd 0 (nI 0)) 0 (nI 1)) hh w' ∧ R0 = [w']) := by
  have hcI := hI
  refine q_ct (cc := cX7_stopped) (maxL := 2) (ret := (some .int)) (own := RX7) (by decide) rfl hZ (Nat.le_of_ble_eq_true rfl) rfl ?_
  intro p9 e9 R s9 m9 args below meth c9 A Q C B
  have hts := C.2.2.2.2.1
  have hinX7 : ∀ w ∈ u_ws RX7 TX7 16, w ∈ wsX7_stopped := by decide +kernel
  have f28 := hts (.fieldLink RX7 28 "SortCasesModel" "thrown" "I") (by decide +kernel)
  refine q_eqL (L' := [(0, .ref h0), (1, .int v)]) rfl ?_
  refine q_aload_n C dX7_stopped_0 1 0 rfl rfl ?_
  refine q_iconst (v := nI 0) C dX7_stopped_1 2 rfl (by decide) ?_
  obtain rfl := h
  have hPo1 : k_isP cI h0 aS aZ aV aN aU aD fd hh [(h0, .inr (6, [.int (fd 0), .ref aS, .ref aZ, .ref aV, .int (fd 4), .ref aN, .int (fd 6), .ref aU, .int (fd 8), .int (fd 9), .int (fd 10), .ref aD, .int (fd 12), .int (fd 13), .int (fd 14), .long hh]))] := rfl
  refine q_put (k := 0) (j := 0) (f := 0) C hinX7 tyX7 tyX7_ok nmX7 f28 (fun _ h => h) (by decide) rfl rfl (tyX7_ok 0 (by decide)) rfl rfl dX7_stopped_2 5 rfl rfl rfl (Nat.le_of_ble_eq_true rfl) [[(h0, .inr (6, [.int (nI 0), .ref aS, .ref aZ, .ref aV, .int (fd 4), .ref aN, .int (fd 6), .ref aU, .int (fd 8), .int (fd 9), .int (fd 10), .ref aD, .int (fd 12), .int (fd 13), .int (fd 14), .long hh]))]] rfl ?_
  have hPp2 : k_isP cI h0 aS aZ aV aN aU aD (upd fd 0 (nI 0)) hh [(h0, .inr (6, [.int (nI 0), .ref aS, .ref aZ, .ref aV, .int (fd 4), .ref aN, .int (fd 6), .ref aU, .int (fd 8), .int (fd 9), .int (fd 10), .ref aD, .int (fd 12), .int (fd 13), .int (fd 14), .long hh]))] := rfl
  refine q_iload_n C dX7_stopped_5 6 1 rfl rfl ?_
  refine q_iconst (v := nI 0) C dX7_stopped_6 7 rfl (by decide) ?_
  refine q_iconst (v := nI 1) C dX7_stopped_7 8 rfl (by decide) ?_
  refine q_callS (n := 3) (rest := []) (Rr := [[(h0, .inr (6, [.int (nI 0), .ref aS, .ref aZ, .ref aV, .int (fd 4), .ref aN, .int (fd 6), .ref aU, .int (fd 8), .int (fd 9), .int (fd 10), .ref aD, .int (fd 12), .int (fd 13), .int (fd 14), .long hh]))]]) C (c_X7_in_f l hZ hI v (nI 0) (nI 1) hbad) gX7_stopped_X7_in rfl rfl rfl (by decide +kernel) B.1 ⟨Nat.le_of_ble_eq_true rfl, Nat.le_of_ble_eq_true rfl⟩ rfl rfl (Nat.le_of_ble_eq_true rfl) dX7_stopped_8 ⟨Nat.le_of_ble_eq_true rfl, Nat.le_of_ble_eq_true rfl⟩ [] [0] (by decide : ([] ++ ([0] : List Nat)).Perm (List.range 1)) rfl rfl 11 rfl (fun v0 R0 t0 ht0 hp0 => ?_)
  obtain ⟨rfl, rfl⟩ := hp0
  refine q_eqs (st' := [.int (nI 0)]) rfl ?_
  refine q_eqR (Rs' := [[(h0, .inr (6, [.int (nI 0), .ref aS, .ref aZ, .ref aV, .int (fd 4), .ref aN, .int (fd 6), .ref aU, .int (fd 8), .int (fd 9), .int (fd 10), .ref aD, .int (fd 12), .int (fd 13), .int (fd 14), .long hh]))]]) rfl ?_
  refine q_if_eq C dX7_stopped_11 14 26 rfl (by decide) (q_eq0 (by omega)) (fun h11 => ?_) (fun h11 => False.elim (by first | omega | simp_all))
  refine q_aload_n C dX7_stopped_26 27 0 rfl rfl ?_
  refine q_iconst (v := nI 1) C dX7_stopped_27 28 rfl (by decide) ?_
  refine q_callV (k := 0) (ci := 6) (n := 1) (rest := []) (Rr := []) C rfl (k_isP_recv hPp2) rfl (c_X7_fails l hZ hI h0 aS aZ aV aN aU aD (upd fd 0 (nI 0)) hh ([(h0, .inr (6, [.int (nI 0), .ref aS, .ref aZ, .ref aV, .int (fd 4), .ref aN, .int (fd 6), .ref aU, .int (fd 8), .int (fd 9), .int (fd 10), .ref aD, .int (fd 12), .int (fd 13), .int (fd 14), .long hh]))]) hPp2 (nI 1)) gX7_stopped_X7_fails rfl rfl rfl (by decide +kernel) B.1 ⟨Nat.le_of_ble_eq_true rfl, Nat.le_of_ble_eq_true rfl⟩ rfl rfl (Nat.le_of_ble_eq_true rfl) dX7_stopped_28 ⟨Nat.le_of_ble_eq_true rfl, Nat.le_of_ble_eq_true rfl⟩ [0] [] (by decide : ([0] ++ ([] : List Nat)).Perm (List.range 1)) rfl rfl 31 rfl (fun v0 R0 t0 ht0 hp0 => ?_)
  obtain ⟨rfl, w_28, hw_28, rfl⟩ := hp0
  refine q_eqs (st' := [.int (nI 0)]) rfl ?_
  refine q_eqR (Rs' := [w_28]) rfl ?_
  exact q_iret C B dX7_stopped_31 rfl rfl (fun t0 ht0 => ⟨rfl, _, hw_28, by first | rfl | simp⟩)

set_option maxHeartbeats 400000 in
set_option maxRecDepth 100000 in
theorem c_X7_stopped_b (l : Launch) {D : va_G} {tys : List (ClassId × FieldType)} {Z : (Nat → Prop) → State → Heap → Prop} (hZ : q_St Z) {cI : ClassId} (hI : tys[0]? = some (cI, .int)) (h0 : Nat) (aS : Nat) (aZ : Nat) (aV : Nat) (aN : Nat) (aU : Nat) (aD : Nat) (fd : Nat → Int32) (hh : Int64) (wP : va_W) (hP : k_isP cI h0 aS aZ aV aN aU aD fd hh wP) (bx : k_Bx) (at0 : Nat) (ln : List (Nat × Nat)) (sc : Nat → Int32) (wQ : va_W) (hQ : k_isQ cI aS bx at0 ln sc wQ) (i : Nat) (hi : i < 2) : q_Ct l D tys Z yX7_stopped wsX7_stopped ({ frames := 2, cells := 0, slots := 0, locals := 72 } : Room) 0 0 [.ref h0, .int (nI i)] [wP, wQ] (fun v0 R0 _ => v0 = some (.int (sc (10 + i))) ∧ ∃ wP', k_isP cI h0 aS aZ aV aN aU aD (upd fd 0 (nI 0)) hh wP' ∧ R0 = [wP', wQ]) := by
  have hcI := hI
  refine q_ct (cc := cX7_stopped) (maxL := 2) (ret := (some .int)) (own := RX7) (by decide) rfl hZ (Nat.le_of_ble_eq_true rfl) rfl ?_
  intro p9 e9 R s9 m9 args below meth c9 A Q C B
  have hts := C.2.2.2.2.1
  have hinX7 : ∀ w ∈ u_ws RX7 TX7 16, w ∈ wsX7_stopped := by decide +kernel
  have f28 := hts (.fieldLink RX7 28 "SortCasesModel" "thrown" "I") (by decide +kernel)
  have f7 := hts (.fieldLink RX7 7 "SortCasesModel" "s" "[I") (by decide +kernel)
  refine q_eqL (L' := [(0, .ref h0), (1, .int (nI i))]) rfl ?_
  refine q_aload_n C dX7_stopped_0 1 0 rfl rfl ?_
  refine q_iconst (v := nI 0) C dX7_stopped_1 2 rfl (by decide) ?_
  obtain rfl := hP
  have hPo1 : k_isP cI h0 aS aZ aV aN aU aD fd hh [(h0, .inr (6, [.int (fd 0), .ref aS, .ref aZ, .ref aV, .int (fd 4), .ref aN, .int (fd 6), .ref aU, .int (fd 8), .int (fd 9), .int (fd 10), .ref aD, .int (fd 12), .int (fd 13), .int (fd 14), .long hh]))] := rfl
  refine q_put (k := 0) (j := 0) (f := 0) C hinX7 tyX7 tyX7_ok nmX7 f28 (fun _ h => h) (by decide) rfl rfl (tyX7_ok 0 (by decide)) rfl rfl dX7_stopped_2 5 rfl rfl rfl (Nat.le_of_ble_eq_true rfl) [[(h0, .inr (6, [.int (nI 0), .ref aS, .ref aZ, .ref aV, .int (fd 4), .ref aN, .int (fd 6), .ref aU, .int (fd 8), .int (fd 9), .int (fd 10), .ref aD, .int (fd 12), .int (fd 13), .int (fd 14), .long hh]))], wQ] rfl ?_
  have hPp2 : k_isP cI h0 aS aZ aV aN aU aD (upd fd 0 (nI 0)) hh [(h0, .inr (6, [.int (nI 0), .ref aS, .ref aZ, .ref aV, .int (fd 4), .ref aN, .int (fd 6), .ref aU, .int (fd 8), .int (fd 9), .int (fd 10), .ref aD, .int (fd 12), .int (fd 13), .int (fd 14), .long hh]))] := rfl
  refine q_iload_n C dX7_stopped_5 6 1 rfl rfl ?_
  refine q_iconst (v := nI 0) C dX7_stopped_6 7 rfl (by decide) ?_
  refine q_iconst (v := nI 1) C dX7_stopped_7 8 rfl (by decide) ?_
  refine q_callS (n := 3) (rest := []) (Rr := [[(h0, .inr (6, [.int (nI 0), .ref aS, .ref aZ, .ref aV, .int (fd 4), .ref aN, .int (fd 6), .ref aU, .int (fd 8), .int (fd 9), .int (fd 10), .ref aD, .int (fd 12), .int (fd 13), .int (fd 14), .long hh]))], wQ]) C (c_X7_in_t l hZ hI (nI i) (nI 0) (nI 1) (k_in2 (by omega) (by omega) (by omega))) gX7_stopped_X7_in rfl rfl rfl (by decide +kernel) B.1 ⟨Nat.le_of_ble_eq_true rfl, Nat.le_of_ble_eq_true rfl⟩ rfl rfl (Nat.le_of_ble_eq_true rfl) dX7_stopped_8 ⟨Nat.le_of_ble_eq_true rfl, Nat.le_of_ble_eq_true rfl⟩ [] [0, 1] (by decide : ([] ++ ([0, 1] : List Nat)).Perm (List.range 2)) rfl rfl 11 rfl (fun v0 R0 t0 ht0 hp0 => ?_)
  obtain ⟨rfl, rfl⟩ := hp0
  refine q_eqs (st' := [.int (nI 1)]) rfl ?_
  refine q_eqR (Rs' := [[(h0, .inr (6, [.int (nI 0), .ref aS, .ref aZ, .ref aV, .int (fd 4), .ref aN, .int (fd 6), .ref aU, .int (fd 8), .int (fd 9), .int (fd 10), .ref aD, .int (fd 12), .int (fd 13), .int (fd 14), .long hh]))], wQ]) rfl ?_
  refine q_if_eq C dX7_stopped_11 14 26 rfl (by decide) (q_eq0 (by omega)) (fun h11 => False.elim (by first | omega | simp_all)) (fun h11 => ?_)
  rcases (by omega : i = 0 ∨ i = 1) with rfl | rfl
  · refine q_aload_n C dX7_stopped_14 15 0 rfl rfl ?_
    refine q_get (k := 0) (j := 0) (f := 1) C hinX7 f7 (fun _ h => h) (by decide) rfl dX7_stopped_15 18 rfl rfl rfl rfl ?_
    refine q_bipush (v := nI 10) C dX7_stopped_18 20 rfl (by decide) ?_
    refine q_iload_n C dX7_stopped_20 21 1 rfl rfl ?_
    refine q_iadd (v := nI 10) C dX7_stopped_21 22 rfl (q_nadd (by omega)) ?_
    obtain ⟨hat3, hok3, hlok3, f3, hm3, rfl⟩ := hQ
    have hll3 := hlok3.1
    have hQo3 : k_isQ cI aS bx at0 ln sc [(aS, .inl (cI, 350, .inl f3))] := ⟨hat3, hok3, hlok3, f3, hm3, rfl⟩
    refine q_iald (k := 1) (j := 0) (v := sc 10) C dX7_stopped_22 23 rfl rfl rfl hcI 10 rfl (by omega) (by decide) (hm3.1 10 (by decide) (by decide)) ?_
    refine q_goto C dX7_stopped_23 31 (by decide) ?_
    exact q_iret C B dX7_stopped_31 rfl rfl (fun t0 ht0 => ⟨rfl, _, hPp2, by first | rfl | simp⟩)
  · refine q_aload_n C dX7_stopped_14 15 0 rfl rfl ?_
    refine q_get (k := 0) (j := 0) (f := 1) C hinX7 f7 (fun _ h => h) (by decide) rfl dX7_stopped_15 18 rfl rfl rfl rfl ?_
    refine q_bipush (v := nI 10) C dX7_stopped_18 20 rfl (by decide) ?_
    refine q_iload_n C dX7_stopped_20 21 1 rfl rfl ?_
    refine q_iadd (v := nI 11) C dX7_stopped_21 22 rfl (q_nadd (by omega)) ?_
    obtain ⟨hat4, hok4, hlok4, f4, hm4, rfl⟩ := hQ
    have hll4 := hlok4.1
    have hQo4 : k_isQ cI aS bx at0 ln sc [(aS, .inl (cI, 350, .inl f4))] := ⟨hat4, hok4, hlok4, f4, hm4, rfl⟩
    refine q_iald (k := 1) (j := 0) (v := sc 11) C dX7_stopped_22 23 rfl rfl rfl hcI 11 rfl (by omega) (by decide) (hm4.1 11 (by decide) (by decide)) ?_
    refine q_goto C dX7_stopped_23 31 (by decide) ?_
    exact q_iret C B dX7_stopped_31 rfl rfl (fun t0 ht0 => ⟨rfl, _, hPp2, by first | rfl | simp⟩)

set_option maxHeartbeats 400000 in
set_option maxRecDepth 100000 in
theorem c_X7_character (l : Launch) {D : va_G} {tys : List (ClassId × FieldType)} {Z : (Nat → Prop) → State → Heap → Prop} (hZ : q_St Z) {cI : ClassId} (hI : tys[0]? = some (cI, .int)) (h0 : Nat) (aS : Nat) (aZ : Nat) (aV : Nat) (aN : Nat) (aU : Nat) (aD : Nat) (fd : Nat → Int32) (hh : Int64) (wP : va_W) (hP : k_isP cI h0 aS aZ aV aN aU aD fd hh wP) (bx : k_Bx) (at0 : Nat) (ln : List (Nat × Nat)) (sc : Nat → Int32) (wQ : va_W) (hQ : k_isQ cI aS bx at0 ln sc wQ) (q : Nat) (hq : q < 2147483648) : q_Ct l D tys Z yX7_character wsX7_character ({ frames := 2, cells := 0, slots := 0, locals := 72 } : Room) 0 0 [.ref h0, .int (nI q)] [wP, wQ] (fun v0 R0 _ => v0 = some (.int (k_ch ln q)) ∧ R0 = [wP, wQ]) := by
  have hcI := hI
  refine q_ct (cc := cX7_character) (maxL := 5) (ret := (some .int)) (own := RX7) (by decide) rfl hZ (Nat.le_of_ble_eq_true rfl) rfl ?_
  intro p9 e9 R s9 m9 args below meth c9 A Q C B
  have hts := C.2.2.2.2.1
  have hinX7 : ∀ w ∈ u_ws RX7 TX7 16, w ∈ wsX7_character := by decide +kernel
  have f7 := hts (.fieldLink RX7 7 "SortCasesModel" "s" "[I") (by decide +kernel)
  refine q_eqL (L' := [(0, .ref h0), (1, .int (nI q))]) rfl ?_
  obtain ⟨hat1, hok1, hlok1, f1, hm1, rfl⟩ := hQ
  have hll1 := hlok1.1
  have hQo1 : k_isQ cI aS bx at0 ln sc [(aS, .inl (cI, 350, .inl f1))] := ⟨hat1, hok1, hlok1, f1, hm1, rfl⟩
  refine q_iload_n C dX7_character_0 1 1 rfl rfl ?_
  refine q_istore_n C dX7_character_1 2 rfl [(2, .int (nI q)), (0, .ref h0), (1, .int (nI q))] (by decide) rfl ?_
  refine q_iconst (v := nI 0) C dX7_character_2 3 rfl (by decide) ?_
  refine q_istore_n C dX7_character_3 4 rfl [(3, .int (nI 0)), (2, .int (nI q)), (0, .ref h0), (1, .int (nI q))] (by decide) rfl ?_
  have lp : ∀ (kk : Nat) (i : Nat) (r : Nat), ln.length - i < kk → ∀ (hi : i ≤ ln.length), ∀ (hn : r + k_pos ln i = q), q_V p9 l e9 R s9 m9 args below meth c9 D A 5 Q 0 0 4 [(3, .int (nI i)), (2, .int (nI r)), (0, .ref h0), (1, .int (nI q))] [] [wP, [(aS, .inl (cI, 350, .inl f1))]] := by
    intro kk
    induction kk with
    | zero => intro i r hkk; exact absurd hkk (Nat.not_lt_zero _)
    | succ kk ih_lp =>
      intro i r hkk hi hn
      refine q_iload_n C dX7_character_4 5 0 rfl rfl ?_
      refine q_aload_n C dX7_character_5 6 2 rfl rfl ?_
      obtain rfl := hP
      have hPo2 : k_isP cI h0 aS aZ aV aN aU aD fd hh [(h0, .inr (6, [.int (fd 0), .ref aS, .ref aZ, .ref aV, .int (fd 4), .ref aN, .int (fd 6), .ref aU, .int (fd 8), .int (fd 9), .int (fd 10), .ref aD, .int (fd 12), .int (fd 13), .int (fd 14), .long hh]))] := rfl
      refine q_get (k := 0) (j := 0) (f := 1) C hinX7 f7 (fun _ h => h) (by decide) rfl dX7_character_6 9 rfl rfl rfl rfl ?_
      refine q_bipush (v := nI 12) C dX7_character_9 11 rfl (by decide) ?_
      refine q_iald (k := 1) (j := 0) (v := nI ln.length) C dX7_character_11 12 rfl rfl rfl hcI 12 rfl (by omega) (by decide) (hm1.2.2.1) ?_
      refine q_icmp_ge C dX7_character_12 15 69 rfl (by decide) (nI_leI (by omega) (by omega)) (fun h12 => ?_) (fun h12 => ?_)
      · refine q_iconst (v := -1) C dX7_character_69 70 rfl (by decide) ?_
        exact q_iret C B dX7_character_70 rfl rfl (fun t0 ht0 => ⟨by rw [k_ch_n (by rw [← show i = ln.length by omega]; omega)], rfl⟩)
      · refine q_aload_n C dX7_character_15 16 2 rfl rfl ?_
        refine q_iload_n C dX7_character_16 17 0 rfl rfl ?_
        refine q_callV (k := 0) (ci := 6) (n := 1) (rest := []) (Rr := []) C rfl (k_isP_recv hPo2) rfl (c_X7_isError l hZ hI h0 aS aZ aV aN aU aD fd hh ([(h0, .inr (6, [.int (fd 0), .ref aS, .ref aZ, .ref aV, .int (fd 4), .ref aN, .int (fd 6), .ref aU, .int (fd 8), .int (fd 9), .int (fd 10), .ref aD, .int (fd 12), .int (fd 13), .int (fd 14), .long hh]))]) hPo2 bx at0 ln sc ([(aS, .inl (cI, 350, .inl f1))]) hQo1 i (by omega)) gX7_character_X7_isError rfl rfl rfl (by decide +kernel) B.1 ⟨Nat.le_of_ble_eq_true rfl, Nat.le_of_ble_eq_true rfl⟩ rfl rfl (Nat.le_of_ble_eq_true rfl) dX7_character_17 ⟨Nat.le_of_ble_eq_true rfl, Nat.le_of_ble_eq_true rfl⟩ [0, 1] [] (by decide : ([0, 1] ++ ([] : List Nat)).Perm (List.range 2)) rfl rfl 20 rfl (fun v0 R0 t0 ht0 hp0 => ?_)
        obtain ⟨rfl, rfl⟩ := hp0
        refine q_eqs (st' := [.int (q_b (decide (¬ (k_la ln i).1 = (k_la ln i).2)))]) rfl ?_
        refine q_eqR (Rs' := [[(h0, .inr (6, [.int (fd 0), .ref aS, .ref aZ, .ref aV, .int (fd 4), .ref aN, .int (fd 6), .ref aU, .int (fd 8), .int (fd 9), .int (fd 10), .ref aD, .int (fd 12), .int (fd 13), .int (fd 14), .long hh]))], [(aS, .inl (cI, 350, .inl f1))]]) rfl ?_
        refine q_if_eq (P := ¬ (¬ (k_la ln i).1 = (k_la ln i).2)) C dX7_character_20 23 27 rfl (by decide) q_bd0 (fun h20 => ?_) (fun h20 => ?_)
        · refine q_iconst (v := nI 1) C dX7_character_27 28 rfl (by decide) ?_
          refine q_istore C dX7_character_28 30 rfl [(4, .int (nI 1)), (3, .int (nI i)), (2, .int (nI r)), (0, .ref h0), (1, .int (nI q))] (by decide) rfl ?_
          refine q_iload_n C dX7_character_30 31 2 rfl rfl ?_
          refine q_iload C dX7_character_31 33 0 rfl rfl ?_
          refine q_icmp_ge C dX7_character_33 36 58 rfl (by decide) (nI_leI (by omega) (by omega)) (fun h33 => ?_) (fun h33 => ?_)
          · refine q_iload_n C dX7_character_58 59 2 rfl rfl ?_
            refine q_iload C dX7_character_59 61 0 rfl rfl ?_
            refine q_isub (v := nI (r - 1)) C dX7_character_61 62 rfl (q_nsub (by omega) (by omega)) ?_
            refine q_istore_n C dX7_character_62 63 rfl [(2, .int (nI (r - 1))), (4, .int (nI 1)), (3, .int (nI i)), (0, .ref h0), (1, .int (nI q))] (by decide) rfl ?_
            refine q_iinc (v := nI (i + 1)) C dX7_character_63 66 2 rfl rfl (q_ninc1 (by omega)) [(3, .int (nI (i + 1))), (2, .int (nI (r - 1))), (4, .int (nI 1)), (0, .ref h0), (1, .int (nI q))] (by decide) rfl ?_
            refine q_goto C dX7_character_66 4 (by decide) ?_
            refine q_sub (L' := [(3, .int (nI (i + 1))), (2, .int (nI (r - 1))), (0, .ref h0), (1, .int (nI q))]) [0, 1, 3, 4] rfl ?_
            exact ih_lp (i + 1) (r - 1) (by omega) (by omega) (by rw [k_pos_s]; first | (rw [if_pos (by omega)]; omega) | (rw [if_neg (by omega)]; omega))
          · refine q_iload_n C dX7_character_36 37 2 rfl rfl ?_
            refine q_if_ne C dX7_character_37 40 55 rfl (by decide) (q_eq0 (by omega)) (fun h37 => False.elim (by first | omega | simp_all)) (fun h37 => ?_)
            refine q_bipush (v := nI 97) C dX7_character_40 42 rfl (by decide) ?_
            refine q_aload_n C dX7_character_42 43 3 rfl rfl ?_
            refine q_get (k := 0) (j := 0) (f := 1) C hinX7 f7 (fun _ h => h) (by decide) rfl dX7_character_43 46 rfl rfl rfl rfl ?_
            refine q_bipush (v := nI 13) C dX7_character_46 48 rfl (by decide) ?_
            refine q_iload_n C dX7_character_48 49 1 rfl rfl ?_
            refine q_iadd (v := nI (i + 13)) C dX7_character_49 50 rfl (q_nadd (by omega)) ?_
            refine q_iald (k := 1) (j := 0) (v := nI ((k_la ln i).1)) C dX7_character_50 51 rfl rfl rfl hcI (i + 13) rfl (by omega) (by decide) ((hm1.2.2.2.1 i (by omega)).1) ?_
            have hla50_1 : (k_la ln i).1 < 12 := (k_la_lt hlok1 (by omega)).1
            refine q_iadd (v := nI ((k_la ln i).1 + 97)) C dX7_character_51 52 rfl (q_nadd (by omega)) ?_
            refine q_goto C dX7_character_52 57 (by decide) ?_
            exact q_iret C B dX7_character_57 rfl rfl (fun t0 ht0 => ⟨by rw [k_ch_a (i := i) (by omega) (by omega)], rfl⟩)
        · refine q_iconst (v := nI 2) C dX7_character_23 24 rfl (by decide) ?_
          refine q_goto C dX7_character_24 28 (by decide) ?_
          refine q_istore C dX7_character_28 30 rfl [(4, .int (nI 2)), (3, .int (nI i)), (2, .int (nI r)), (0, .ref h0), (1, .int (nI q))] (by decide) rfl ?_
          refine q_iload_n C dX7_character_30 31 2 rfl rfl ?_
          refine q_iload C dX7_character_31 33 0 rfl rfl ?_
          refine q_icmp_ge C dX7_character_33 36 58 rfl (by decide) (nI_leI (by omega) (by omega)) (fun h33 => ?_) (fun h33 => ?_)
          · refine q_iload_n C dX7_character_58 59 2 rfl rfl ?_
            refine q_iload C dX7_character_59 61 0 rfl rfl ?_
            refine q_isub (v := nI (r - 2)) C dX7_character_61 62 rfl (q_nsub (by omega) (by omega)) ?_
            refine q_istore_n C dX7_character_62 63 rfl [(2, .int (nI (r - 2))), (4, .int (nI 2)), (3, .int (nI i)), (0, .ref h0), (1, .int (nI q))] (by decide) rfl ?_
            refine q_iinc (v := nI (i + 1)) C dX7_character_63 66 2 rfl rfl (q_ninc1 (by omega)) [(3, .int (nI (i + 1))), (2, .int (nI (r - 2))), (4, .int (nI 2)), (0, .ref h0), (1, .int (nI q))] (by decide) rfl ?_
            refine q_goto C dX7_character_66 4 (by decide) ?_
            refine q_sub (L' := [(3, .int (nI (i + 1))), (2, .int (nI (r - 2))), (0, .ref h0), (1, .int (nI q))]) [0, 1, 3, 4] rfl ?_
            exact ih_lp (i + 1) (r - 2) (by omega) (by omega) (by rw [k_pos_s]; first | (rw [if_pos (by omega)]; omega) | (rw [if_neg (by omega)]; omega))
          · refine q_iload_n C dX7_character_36 37 2 rfl rfl ?_
            refine q_if_ne C dX7_character_37 40 55 rfl (by decide) (q_eq0 (by omega)) (fun h37 => ?_) (fun h37 => ?_)
            · refine q_bipush (v := nI 33) C dX7_character_55 57 rfl (by decide) ?_
              exact q_iret C B dX7_character_57 rfl rfl (fun t0 ht0 => ⟨by rw [k_ch_b (i := i) (by omega) (by omega) (by omega)], rfl⟩)
            · refine q_bipush (v := nI 97) C dX7_character_40 42 rfl (by decide) ?_
              refine q_aload_n C dX7_character_42 43 3 rfl rfl ?_
              refine q_get (k := 0) (j := 0) (f := 1) C hinX7 f7 (fun _ h => h) (by decide) rfl dX7_character_43 46 rfl rfl rfl rfl ?_
              refine q_bipush (v := nI 13) C dX7_character_46 48 rfl (by decide) ?_
              refine q_iload_n C dX7_character_48 49 1 rfl rfl ?_
              refine q_iadd (v := nI (i + 13)) C dX7_character_49 50 rfl (q_nadd (by omega)) ?_
              refine q_iald (k := 1) (j := 0) (v := nI ((k_la ln i).1)) C dX7_character_50 51 rfl rfl rfl hcI (i + 13) rfl (by omega) (by decide) ((hm1.2.2.2.1 i (by omega)).1) ?_
              have hla50_2 : (k_la ln i).1 < 12 := (k_la_lt hlok1 (by omega)).1
              refine q_iadd (v := nI ((k_la ln i).1 + 97)) C dX7_character_51 52 rfl (q_nadd (by omega)) ?_
              refine q_goto C dX7_character_52 57 (by decide) ?_
              exact q_iret C B dX7_character_57 rfl rfl (fun t0 ht0 => ⟨by rw [k_ch_a (i := i) (by omega) (by omega)], rfl⟩)
  refine q_sub (L' := [(3, .int (nI 0)), (2, .int (nI q)), (0, .ref h0), (1, .int (nI q))]) [0, 1, 2, 3] rfl ?_
  exact lp _ 0 q (Nat.lt_succ_self _) (by omega) (by show q + 0 = q; omega)

set_option maxHeartbeats 400000 in
set_option maxRecDepth 100000 in
theorem c_X7_told_a (l : Launch) {D : va_G} {tys : List (ClassId × FieldType)} {Z : (Nat → Prop) → State → Heap → Prop} (hZ : q_St Z) {cI : ClassId} (hI : tys[0]? = some (cI, .int)) (h0 : Nat) (aS : Nat) (aZ : Nat) (aV : Nat) (aN : Nat) (aU : Nat) (aD : Nat) (fd : Nat → Int32) (hh : Int64) (w : va_W) (h : k_isP cI h0 aS aZ aV aN aU aD fd hh w) (v : Int32) (hbad : ¬ (0 : Int32) ≤ v) : q_Ct l D tys Z yX7_told wsX7_told ({ frames := 3, cells := 0, slots := 0, locals := 102 } : Room) 0 0 [.ref h0, .int v] [w] (fun v0 R0 _ => v0 = some (.int (nI 0)) ∧ ∃ w', k_isP cI h0 aS aZ aV aN aU aD (upd (upd fd 0 (nI 0)) 0 (nI 1)) hh w' ∧ R0 = [w']) := by
  have hcI := hI
  refine q_ct (cc := cX7_told) (maxL := 2) (ret := (some .int)) (own := RX7) (by decide) rfl hZ (Nat.le_of_ble_eq_true rfl) rfl ?_
  intro p9 e9 R s9 m9 args below meth c9 A Q C B
  have hts := C.2.2.2.2.1
  have hinX7 : ∀ w ∈ u_ws RX7 TX7 16, w ∈ wsX7_told := by decide +kernel
  have f28 := hts (.fieldLink RX7 28 "SortCasesModel" "thrown" "I") (by decide +kernel)
  refine q_eqL (L' := [(0, .ref h0), (1, .int v)]) rfl ?_
  refine q_aload_n C dX7_told_0 1 0 rfl rfl ?_
  refine q_iconst (v := nI 0) C dX7_told_1 2 rfl (by decide) ?_
  obtain rfl := h
  have hPo1 : k_isP cI h0 aS aZ aV aN aU aD fd hh [(h0, .inr (6, [.int (fd 0), .ref aS, .ref aZ, .ref aV, .int (fd 4), .ref aN, .int (fd 6), .ref aU, .int (fd 8), .int (fd 9), .int (fd 10), .ref aD, .int (fd 12), .int (fd 13), .int (fd 14), .long hh]))] := rfl
  refine q_put (k := 0) (j := 0) (f := 0) C hinX7 tyX7 tyX7_ok nmX7 f28 (fun _ h => h) (by decide) rfl rfl (tyX7_ok 0 (by decide)) rfl rfl dX7_told_2 5 rfl rfl rfl (Nat.le_of_ble_eq_true rfl) [[(h0, .inr (6, [.int (nI 0), .ref aS, .ref aZ, .ref aV, .int (fd 4), .ref aN, .int (fd 6), .ref aU, .int (fd 8), .int (fd 9), .int (fd 10), .ref aD, .int (fd 12), .int (fd 13), .int (fd 14), .long hh]))]] rfl ?_
  have hPp2 : k_isP cI h0 aS aZ aV aN aU aD (upd fd 0 (nI 0)) hh [(h0, .inr (6, [.int (nI 0), .ref aS, .ref aZ, .ref aV, .int (fd 4), .ref aN, .int (fd 6), .ref aU, .int (fd 8), .int (fd 9), .int (fd 10), .ref aD, .int (fd 12), .int (fd 13), .int (fd 14), .long hh]))] := rfl
  refine q_iload_n C dX7_told_5 6 1 rfl rfl ?_
  refine q_if_ge C dX7_told_6 9 17 rfl (by decide) Iff.rfl (fun h6 => False.elim (absurd h6 hbad)) (fun h6 => ?_)
  refine q_aload_n C dX7_told_9 10 0 rfl rfl ?_
  refine q_iconst (v := nI 1) C dX7_told_10 11 rfl (by decide) ?_
  refine q_callV (k := 0) (ci := 6) (n := 1) (rest := []) (Rr := []) C rfl (k_isP_recv hPp2) rfl (c_X7_fails l hZ hI h0 aS aZ aV aN aU aD (upd fd 0 (nI 0)) hh ([(h0, .inr (6, [.int (nI 0), .ref aS, .ref aZ, .ref aV, .int (fd 4), .ref aN, .int (fd 6), .ref aU, .int (fd 8), .int (fd 9), .int (fd 10), .ref aD, .int (fd 12), .int (fd 13), .int (fd 14), .long hh]))]) hPp2 (nI 1)) gX7_told_X7_fails rfl rfl rfl (by decide +kernel) B.1 ⟨Nat.le_of_ble_eq_true rfl, Nat.le_of_ble_eq_true rfl⟩ rfl rfl (Nat.le_of_ble_eq_true rfl) dX7_told_11 ⟨Nat.le_of_ble_eq_true rfl, Nat.le_of_ble_eq_true rfl⟩ [0] [] (by decide : ([0] ++ ([] : List Nat)).Perm (List.range 1)) rfl rfl 14 rfl (fun v0 R0 t0 ht0 hp0 => ?_)
  obtain ⟨rfl, w_11, hw_11, rfl⟩ := hp0
  refine q_eqs (st' := [.int (nI 0)]) rfl ?_
  refine q_eqR (Rs' := [w_11]) rfl ?_
  refine q_goto C dX7_told_14 22 (by decide) ?_
  exact q_iret C B dX7_told_22 rfl rfl (fun t0 ht0 => ⟨rfl, _, hw_11, by first | rfl | simp⟩)

set_option maxHeartbeats 400000 in
set_option maxRecDepth 100000 in
theorem c_X7_told_b (l : Launch) {D : va_G} {tys : List (ClassId × FieldType)} {Z : (Nat → Prop) → State → Heap → Prop} (hZ : q_St Z) {cI : ClassId} (hI : tys[0]? = some (cI, .int)) (h0 : Nat) (aS : Nat) (aZ : Nat) (aV : Nat) (aN : Nat) (aU : Nat) (aD : Nat) (fd : Nat → Int32) (hh : Int64) (wP : va_W) (hP : k_isP cI h0 aS aZ aV aN aU aD fd hh wP) (bx : k_Bx) (at0 : Nat) (ln : List (Nat × Nat)) (sc : Nat → Int32) (wQ : va_W) (hQ : k_isQ cI aS bx at0 ln sc wQ) (q : Nat) (hq : q < 2147483648) : q_Ct l D tys Z yX7_told wsX7_told ({ frames := 3, cells := 0, slots := 0, locals := 102 } : Room) 0 0 [.ref h0, .int (nI q)] [wP, wQ] (fun v0 R0 _ => v0 = some (.int (k_ch ln q)) ∧ ∃ wP', k_isP cI h0 aS aZ aV aN aU aD (upd fd 0 (nI 0)) hh wP' ∧ R0 = [wP', wQ]) := by
  have hcI := hI
  refine q_ct (cc := cX7_told) (maxL := 2) (ret := (some .int)) (own := RX7) (by decide) rfl hZ (Nat.le_of_ble_eq_true rfl) rfl ?_
  intro p9 e9 R s9 m9 args below meth c9 A Q C B
  have hts := C.2.2.2.2.1
  have hinX7 : ∀ w ∈ u_ws RX7 TX7 16, w ∈ wsX7_told := by decide +kernel
  have f28 := hts (.fieldLink RX7 28 "SortCasesModel" "thrown" "I") (by decide +kernel)
  refine q_eqL (L' := [(0, .ref h0), (1, .int (nI q))]) rfl ?_
  refine q_aload_n C dX7_told_0 1 0 rfl rfl ?_
  refine q_iconst (v := nI 0) C dX7_told_1 2 rfl (by decide) ?_
  obtain rfl := hP
  have hPo1 : k_isP cI h0 aS aZ aV aN aU aD fd hh [(h0, .inr (6, [.int (fd 0), .ref aS, .ref aZ, .ref aV, .int (fd 4), .ref aN, .int (fd 6), .ref aU, .int (fd 8), .int (fd 9), .int (fd 10), .ref aD, .int (fd 12), .int (fd 13), .int (fd 14), .long hh]))] := rfl
  refine q_put (k := 0) (j := 0) (f := 0) C hinX7 tyX7 tyX7_ok nmX7 f28 (fun _ h => h) (by decide) rfl rfl (tyX7_ok 0 (by decide)) rfl rfl dX7_told_2 5 rfl rfl rfl (Nat.le_of_ble_eq_true rfl) [[(h0, .inr (6, [.int (nI 0), .ref aS, .ref aZ, .ref aV, .int (fd 4), .ref aN, .int (fd 6), .ref aU, .int (fd 8), .int (fd 9), .int (fd 10), .ref aD, .int (fd 12), .int (fd 13), .int (fd 14), .long hh]))], wQ] rfl ?_
  have hPp2 : k_isP cI h0 aS aZ aV aN aU aD (upd fd 0 (nI 0)) hh [(h0, .inr (6, [.int (nI 0), .ref aS, .ref aZ, .ref aV, .int (fd 4), .ref aN, .int (fd 6), .ref aU, .int (fd 8), .int (fd 9), .int (fd 10), .ref aD, .int (fd 12), .int (fd 13), .int (fd 14), .long hh]))] := rfl
  refine q_iload_n C dX7_told_5 6 1 rfl rfl ?_
  refine q_if_ge C dX7_told_6 9 17 rfl (by decide) (q_ge0 (by omega)) (fun h6 => ?_) (fun h6 => False.elim (by first | omega | simp_all))
  refine q_aload_n C dX7_told_17 18 0 rfl rfl ?_
  refine q_iload_n C dX7_told_18 19 1 rfl rfl ?_
  refine q_callV (k := 0) (ci := 6) (n := 1) (rest := []) (Rr := []) C rfl (k_isP_recv hPp2) rfl (c_X7_character l hZ hI h0 aS aZ aV aN aU aD (upd fd 0 (nI 0)) hh ([(h0, .inr (6, [.int (nI 0), .ref aS, .ref aZ, .ref aV, .int (fd 4), .ref aN, .int (fd 6), .ref aU, .int (fd 8), .int (fd 9), .int (fd 10), .ref aD, .int (fd 12), .int (fd 13), .int (fd 14), .long hh]))]) hPp2 bx at0 ln sc wQ hQ q (by omega)) gX7_told_X7_character rfl rfl rfl (by decide +kernel) B.1 ⟨Nat.le_of_ble_eq_true rfl, Nat.le_of_ble_eq_true rfl⟩ rfl rfl (Nat.le_of_ble_eq_true rfl) dX7_told_19 ⟨Nat.le_of_ble_eq_true rfl, Nat.le_of_ble_eq_true rfl⟩ [0, 1] [] (by decide : ([0, 1] ++ ([] : List Nat)).Perm (List.range 2)) rfl rfl 22 rfl (fun v0 R0 t0 ht0 hp0 => ?_)
  obtain ⟨rfl, rfl⟩ := hp0
  refine q_eqs (st' := [.int (k_ch ln q)]) rfl ?_
  refine q_eqR (Rs' := [[(h0, .inr (6, [.int (nI 0), .ref aS, .ref aZ, .ref aV, .int (fd 4), .ref aN, .int (fd 6), .ref aU, .int (fd 8), .int (fd 9), .int (fd 10), .ref aD, .int (fd 12), .int (fd 13), .int (fd 14), .long hh]))], wQ]) rfl ?_
  exact q_iret C B dX7_told_22 rfl rfl (fun t0 ht0 => ⟨rfl, _, hPp2, by first | rfl | simp⟩)

set_option maxHeartbeats 400000 in
set_option maxRecDepth 100000 in
theorem c_X7_whyNot_a (l : Launch) {D : va_G} {tys : List (ClassId × FieldType)} {Z : (Nat → Prop) → State → Heap → Prop} (hZ : q_St Z) {cI : ClassId} (hI : tys[0]? = some (cI, .int)) (h0 : Nat) (aS : Nat) (aZ : Nat) (aV : Nat) (aN : Nat) (aU : Nat) (aD : Nat) (fd : Nat → Int32) (hh : Int64) (w : va_W) (h : k_isP cI h0 aS aZ aV aN aU aD fd hh w) (v : Int32) (hbad : ¬ ((0 : Int32) ≤ v ∧ v ≤ 11)) : q_Ct l D tys Z yX7_whyNot wsX7_whyNot ({ frames := 4, cells := 0, slots := 0, locals := 132 } : Room) 0 0 [.ref h0, .int v] [w] (fun v0 R0 _ => v0 = some (.int (nI 0)) ∧ ∃ w', k_isP cI h0 aS aZ aV aN aU aD (upd (upd fd 0 (nI 0)) 0 (nI 1)) hh w' ∧ R0 = [w']) := by
  have hcI := hI
  refine q_ct (cc := cX7_whyNot) (maxL := 2) (ret := (some .int)) (own := RX7) (by decide) rfl hZ (Nat.le_of_ble_eq_true rfl) rfl ?_
  intro p9 e9 R s9 m9 args below meth c9 A Q C B
  have hts := C.2.2.2.2.1
  have hinX7 : ∀ w ∈ u_ws RX7 TX7 16, w ∈ wsX7_whyNot := by decide +kernel
  have f28 := hts (.fieldLink RX7 28 "SortCasesModel" "thrown" "I") (by decide +kernel)
  refine q_eqL (L' := [(0, .ref h0), (1, .int v)]) rfl ?_
  refine q_aload_n C dX7_whyNot_0 1 0 rfl rfl ?_
  refine q_iconst (v := nI 0) C dX7_whyNot_1 2 rfl (by decide) ?_
  obtain rfl := h
  have hPo1 : k_isP cI h0 aS aZ aV aN aU aD fd hh [(h0, .inr (6, [.int (fd 0), .ref aS, .ref aZ, .ref aV, .int (fd 4), .ref aN, .int (fd 6), .ref aU, .int (fd 8), .int (fd 9), .int (fd 10), .ref aD, .int (fd 12), .int (fd 13), .int (fd 14), .long hh]))] := rfl
  refine q_put (k := 0) (j := 0) (f := 0) C hinX7 tyX7 tyX7_ok nmX7 f28 (fun _ h => h) (by decide) rfl rfl (tyX7_ok 0 (by decide)) rfl rfl dX7_whyNot_2 5 rfl rfl rfl (Nat.le_of_ble_eq_true rfl) [[(h0, .inr (6, [.int (nI 0), .ref aS, .ref aZ, .ref aV, .int (fd 4), .ref aN, .int (fd 6), .ref aU, .int (fd 8), .int (fd 9), .int (fd 10), .ref aD, .int (fd 12), .int (fd 13), .int (fd 14), .long hh]))]] rfl ?_
  have hPp2 : k_isP cI h0 aS aZ aV aN aU aD (upd fd 0 (nI 0)) hh [(h0, .inr (6, [.int (nI 0), .ref aS, .ref aZ, .ref aV, .int (fd 4), .ref aN, .int (fd 6), .ref aU, .int (fd 8), .int (fd 9), .int (fd 10), .ref aD, .int (fd 12), .int (fd 13), .int (fd 14), .long hh]))] := rfl
  refine q_iload_n C dX7_whyNot_5 6 1 rfl rfl ?_
  refine q_callS (n := 1) (rest := []) (Rr := [[(h0, .inr (6, [.int (nI 0), .ref aS, .ref aZ, .ref aV, .int (fd 4), .ref aN, .int (fd 6), .ref aU, .int (fd 8), .int (fd 9), .int (fd 10), .ref aD, .int (fd 12), .int (fd 13), .int (fd 14), .long hh]))]]) C (c_X7_isBox_f l hZ hI v hbad) gX7_whyNot_X7_isBox rfl rfl rfl (by decide +kernel) B.1 ⟨Nat.le_of_ble_eq_true rfl, Nat.le_of_ble_eq_true rfl⟩ rfl rfl (Nat.le_of_ble_eq_true rfl) dX7_whyNot_6 ⟨Nat.le_of_ble_eq_true rfl, Nat.le_of_ble_eq_true rfl⟩ [] [0] (by decide : ([] ++ ([0] : List Nat)).Perm (List.range 1)) rfl rfl 9 rfl (fun v0 R0 t0 ht0 hp0 => ?_)
  obtain ⟨rfl, rfl⟩ := hp0
  refine q_eqs (st' := [.int (nI 0)]) rfl ?_
  refine q_eqR (Rs' := [[(h0, .inr (6, [.int (nI 0), .ref aS, .ref aZ, .ref aV, .int (fd 4), .ref aN, .int (fd 6), .ref aU, .int (fd 8), .int (fd 9), .int (fd 10), .ref aD, .int (fd 12), .int (fd 13), .int (fd 14), .long hh]))]]) rfl ?_
  refine q_if_eq C dX7_whyNot_9 12 20 rfl (by decide) (q_eq0 (by omega)) (fun h9 => ?_) (fun h9 => False.elim (by first | omega | simp_all))
  refine q_aload_n C dX7_whyNot_20 21 0 rfl rfl ?_
  refine q_iconst (v := nI 1) C dX7_whyNot_21 22 rfl (by decide) ?_
  refine q_callV (k := 0) (ci := 6) (n := 1) (rest := []) (Rr := []) C rfl (k_isP_recv hPp2) rfl (c_X7_fails l hZ hI h0 aS aZ aV aN aU aD (upd fd 0 (nI 0)) hh ([(h0, .inr (6, [.int (nI 0), .ref aS, .ref aZ, .ref aV, .int (fd 4), .ref aN, .int (fd 6), .ref aU, .int (fd 8), .int (fd 9), .int (fd 10), .ref aD, .int (fd 12), .int (fd 13), .int (fd 14), .long hh]))]) hPp2 (nI 1)) gX7_whyNot_X7_fails rfl rfl rfl (by decide +kernel) B.1 ⟨Nat.le_of_ble_eq_true rfl, Nat.le_of_ble_eq_true rfl⟩ rfl rfl (Nat.le_of_ble_eq_true rfl) dX7_whyNot_22 ⟨Nat.le_of_ble_eq_true rfl, Nat.le_of_ble_eq_true rfl⟩ [0] [] (by decide : ([0] ++ ([] : List Nat)).Perm (List.range 1)) rfl rfl 25 rfl (fun v0 R0 t0 ht0 hp0 => ?_)
  obtain ⟨rfl, w_22, hw_22, rfl⟩ := hp0
  refine q_eqs (st' := [.int (nI 0)]) rfl ?_
  refine q_eqR (Rs' := [w_22]) rfl ?_
  exact q_iret C B dX7_whyNot_25 rfl rfl (fun t0 ht0 => ⟨rfl, _, hw_22, by first | rfl | simp⟩)

set_option maxHeartbeats 400000 in
set_option maxRecDepth 100000 in
theorem c_X7_whyNot_b (l : Launch) {D : va_G} {tys : List (ClassId × FieldType)} {Z : (Nat → Prop) → State → Heap → Prop} (hZ : q_St Z) {cI : ClassId} (hI : tys[0]? = some (cI, .int)) (h0 : Nat) (aS : Nat) (aZ : Nat) (aV : Nat) (aN : Nat) (aU : Nat) (aD : Nat) (fd : Nat → Int32) (hh : Int64) (wP : va_W) (hP : k_isP cI h0 aS aZ aV aN aU aD fd hh wP) (bx : k_Bx) (at0 : Nat) (ln : List (Nat × Nat)) (sc : Nat → Int32) (wQ : va_W) (hQ : k_isQ cI aS bx at0 ln sc wQ) (c : Nat) (hc : c < 12) : q_Ct l D tys Z yX7_whyNot wsX7_whyNot ({ frames := 4, cells := 0, slots := 0, locals := 132 } : Room) 0 0 [.ref h0, .int (nI c)] [wP, wQ] (fun v0 R0 _ => v0 = some (.int (nI (k_wn bx ln sc c))) ∧ ∃ wP', k_isP cI h0 aS aZ aV aN aU aD (upd fd 0 (nI 0)) hh wP' ∧ R0 = [wP', wQ]) := by
  have hcI := hI
  refine q_ct (cc := cX7_whyNot) (maxL := 2) (ret := (some .int)) (own := RX7) (by decide) rfl hZ (Nat.le_of_ble_eq_true rfl) rfl ?_
  intro p9 e9 R s9 m9 args below meth c9 A Q C B
  have hts := C.2.2.2.2.1
  have hinX7 : ∀ w ∈ u_ws RX7 TX7 16, w ∈ wsX7_whyNot := by decide +kernel
  have f28 := hts (.fieldLink RX7 28 "SortCasesModel" "thrown" "I") (by decide +kernel)
  refine q_eqL (L' := [(0, .ref h0), (1, .int (nI c))]) rfl ?_
  refine q_aload_n C dX7_whyNot_0 1 0 rfl rfl ?_
  refine q_iconst (v := nI 0) C dX7_whyNot_1 2 rfl (by decide) ?_
  obtain rfl := hP
  have hPo1 : k_isP cI h0 aS aZ aV aN aU aD fd hh [(h0, .inr (6, [.int (fd 0), .ref aS, .ref aZ, .ref aV, .int (fd 4), .ref aN, .int (fd 6), .ref aU, .int (fd 8), .int (fd 9), .int (fd 10), .ref aD, .int (fd 12), .int (fd 13), .int (fd 14), .long hh]))] := rfl
  refine q_put (k := 0) (j := 0) (f := 0) C hinX7 tyX7 tyX7_ok nmX7 f28 (fun _ h => h) (by decide) rfl rfl (tyX7_ok 0 (by decide)) rfl rfl dX7_whyNot_2 5 rfl rfl rfl (Nat.le_of_ble_eq_true rfl) [[(h0, .inr (6, [.int (nI 0), .ref aS, .ref aZ, .ref aV, .int (fd 4), .ref aN, .int (fd 6), .ref aU, .int (fd 8), .int (fd 9), .int (fd 10), .ref aD, .int (fd 12), .int (fd 13), .int (fd 14), .long hh]))], wQ] rfl ?_
  have hPp2 : k_isP cI h0 aS aZ aV aN aU aD (upd fd 0 (nI 0)) hh [(h0, .inr (6, [.int (nI 0), .ref aS, .ref aZ, .ref aV, .int (fd 4), .ref aN, .int (fd 6), .ref aU, .int (fd 8), .int (fd 9), .int (fd 10), .ref aD, .int (fd 12), .int (fd 13), .int (fd 14), .long hh]))] := rfl
  refine q_iload_n C dX7_whyNot_5 6 1 rfl rfl ?_
  refine q_callS (n := 1) (rest := []) (Rr := [[(h0, .inr (6, [.int (nI 0), .ref aS, .ref aZ, .ref aV, .int (fd 4), .ref aN, .int (fd 6), .ref aU, .int (fd 8), .int (fd 9), .int (fd 10), .ref aD, .int (fd 12), .int (fd 13), .int (fd 14), .long hh]))], wQ]) C (c_X7_isBox_t l hZ hI (nI c) (k_b12 (by omega))) gX7_whyNot_X7_isBox rfl rfl rfl (by decide +kernel) B.1 ⟨Nat.le_of_ble_eq_true rfl, Nat.le_of_ble_eq_true rfl⟩ rfl rfl (Nat.le_of_ble_eq_true rfl) dX7_whyNot_6 ⟨Nat.le_of_ble_eq_true rfl, Nat.le_of_ble_eq_true rfl⟩ [] [0, 1] (by decide : ([] ++ ([0, 1] : List Nat)).Perm (List.range 2)) rfl rfl 9 rfl (fun v0 R0 t0 ht0 hp0 => ?_)
  obtain ⟨rfl, rfl⟩ := hp0
  refine q_eqs (st' := [.int (nI 1)]) rfl ?_
  refine q_eqR (Rs' := [[(h0, .inr (6, [.int (nI 0), .ref aS, .ref aZ, .ref aV, .int (fd 4), .ref aN, .int (fd 6), .ref aU, .int (fd 8), .int (fd 9), .int (fd 10), .ref aD, .int (fd 12), .int (fd 13), .int (fd 14), .long hh]))], wQ]) rfl ?_
  refine q_if_eq C dX7_whyNot_9 12 20 rfl (by decide) (q_eq0 (by omega)) (fun h9 => False.elim (by first | omega | simp_all)) (fun h9 => ?_)
  refine q_aload_n C dX7_whyNot_12 13 0 rfl rfl ?_
  refine q_iload_n C dX7_whyNot_13 14 1 rfl rfl ?_
  refine q_callV (k := 0) (ci := 6) (n := 1) (rest := []) (Rr := []) C rfl (k_isP_recv hPp2) rfl (c_X7_refusesLetter l hZ hI h0 aS aZ aV aN aU aD (upd fd 0 (nI 0)) hh ([(h0, .inr (6, [.int (nI 0), .ref aS, .ref aZ, .ref aV, .int (fd 4), .ref aN, .int (fd 6), .ref aU, .int (fd 8), .int (fd 9), .int (fd 10), .ref aD, .int (fd 12), .int (fd 13), .int (fd 14), .long hh]))]) hPp2 bx at0 ln sc wQ hQ c (by omega)) gX7_whyNot_X7_refusesLetter rfl rfl rfl (by decide +kernel) B.1 ⟨Nat.le_of_ble_eq_true rfl, Nat.le_of_ble_eq_true rfl⟩ rfl rfl (Nat.le_of_ble_eq_true rfl) dX7_whyNot_14 ⟨Nat.le_of_ble_eq_true rfl, Nat.le_of_ble_eq_true rfl⟩ [0, 1] [] (by decide : ([0, 1] ++ ([] : List Nat)).Perm (List.range 2)) rfl rfl 17 rfl (fun v0 R0 t0 ht0 hp0 => ?_)
  obtain ⟨rfl, rfl⟩ := hp0
  refine q_eqs (st' := [.int (nI (k_wn bx ln sc c))]) rfl ?_
  refine q_eqR (Rs' := [[(h0, .inr (6, [.int (nI 0), .ref aS, .ref aZ, .ref aV, .int (fd 4), .ref aN, .int (fd 6), .ref aU, .int (fd 8), .int (fd 9), .int (fd 10), .ref aD, .int (fd 12), .int (fd 13), .int (fd 14), .long hh]))], wQ]) rfl ?_
  have hw14 : k_wn bx ln sc c ≤ 2 := k_wn_le _ _ _ _
  refine q_goto C dX7_whyNot_17 25 (by decide) ?_
  exact q_iret C B dX7_whyNot_25 rfl rfl (fun t0 ht0 => ⟨rfl, _, hPp2, by first | rfl | simp⟩)

set_option maxHeartbeats 400000 in
set_option maxRecDepth 100000 in
theorem c_X7_tellsBox (l : Launch) {D : va_G} {tys : List (ClassId × FieldType)} {Z : (Nat → Prop) → State → Heap → Prop} (hZ : q_St Z) {cI : ClassId} (hI : tys[0]? = some (cI, .int)) (h0 : Nat) (aS : Nat) (aZ : Nat) (aV : Nat) (aN : Nat) (aU : Nat) (aD : Nat) (fd : Nat → Int32) (hh : Int64) (wP : va_W) (hP : k_isP cI h0 aS aZ aV aN aU aD fd hh wP) (bx : k_Bx) (at0 : Nat) (ln : List (Nat × Nat)) (sc : Nat → Int32) (wQ : va_W) (hQ : k_isQ cI aS bx at0 ln sc wQ) (b : Nat) (i : Nat) (hb : b < 12) (hi : i < 7) : q_Ct l D tys Z yX7_tellsBox wsX7_tellsBox ({ frames := 3, cells := 0, slots := 0, locals := 102 } : Room) 0 0 [.ref h0, .int (nI b), .int (nI i)] [wP, wQ] (fun v0 R0 _ => v0 = some (.int (k_tb bx at0 sc b i)) ∧ R0 = [wP, wQ]) := by
  have hcI := hI
  refine q_ct (cc := cX7_tellsBox) (maxL := 3) (ret := (some .int)) (own := RX7) (by decide) rfl hZ (Nat.le_of_ble_eq_true rfl) rfl ?_
  intro p9 e9 R s9 m9 args below meth c9 A Q C B
  have hts := C.2.2.2.2.1
  have hinX7 : ∀ w ∈ u_ws RX7 TX7 16, w ∈ wsX7_tellsBox := by decide +kernel
  have f7 := hts (.fieldLink RX7 7 "SortCasesModel" "s" "[I") (by decide +kernel)
  refine q_eqL (L' := [(0, .ref h0), (1, .int (nI b)), (2, .int (nI i))]) rfl ?_
  refine q_iload_n C dX7_tellsBox_0 1 2 rfl rfl ?_
  rcases (by omega : i = 0 ∨ i = 1 ∨ i = 2 ∨ i = 3 ∨ i = 4 ∨ i = 5 ∨ i = 6) with rfl | rfl | rfl | rfl | rfl | rfl | rfl
  · refine q_tableIn C dX7_tellsBox_1 40 (by decide) (by decide) rfl (by decide) ?_
    refine q_aload_n C dX7_tellsBox_40 41 0 rfl rfl ?_
    refine q_iload_n C dX7_tellsBox_41 42 1 rfl rfl ?_
    refine q_callV (k := 0) (ci := 6) (n := 1) (rest := []) (Rr := []) C rfl (k_isP_recv hP) rfl (c_X7_many_q l hZ hI h0 aS aZ aV aN aU aD fd hh wP hP bx at0 ln sc wQ hQ b (by omega)) gX7_tellsBox_X7_many rfl rfl rfl (by decide +kernel) B.1 ⟨Nat.le_of_ble_eq_true rfl, Nat.le_of_ble_eq_true rfl⟩ rfl rfl (Nat.le_of_ble_eq_true rfl) dX7_tellsBox_42 ⟨Nat.le_of_ble_eq_true rfl, Nat.le_of_ble_eq_true rfl⟩ [0, 1] [] (by decide : ([0, 1] ++ ([] : List Nat)).Perm (List.range 2)) rfl rfl 45 rfl (fun v0 R0 t0 ht0 hp0 => ?_)
    obtain ⟨rfl, rfl⟩ := hp0
    refine q_eqs (st' := [.int (nI ((bx b).length))]) rfl ?_
    refine q_eqR (Rs' := [wP, wQ]) rfl ?_
    have hh42 : (bx b).length ≤ 20 := (hQ.2.1 b (by omega)).1
    exact q_iret C B dX7_tellsBox_45 rfl rfl (fun t0 ht0 => ⟨rfl, rfl⟩)
  · refine q_tableIn C dX7_tellsBox_1 46 (by decide) (by decide) rfl (by decide) ?_
    refine q_aload_n C dX7_tellsBox_46 47 0 rfl rfl ?_
    refine q_iload_n C dX7_tellsBox_47 48 1 rfl rfl ?_
    refine q_callV (k := 0) (ci := 6) (n := 1) (rest := []) (Rr := []) C rfl (k_isP_recv hP) rfl (c_X7_wrongIn l hZ hI h0 aS aZ aV aN aU aD fd hh wP hP bx at0 ln sc wQ hQ b (by omega)) gX7_tellsBox_X7_wrongIn rfl rfl rfl (by decide +kernel) B.1 ⟨Nat.le_of_ble_eq_true rfl, Nat.le_of_ble_eq_true rfl⟩ rfl rfl (Nat.le_of_ble_eq_true rfl) dX7_tellsBox_48 ⟨Nat.le_of_ble_eq_true rfl, Nat.le_of_ble_eq_true rfl⟩ [0, 1] [] (by decide : ([0, 1] ++ ([] : List Nat)).Perm (List.range 2)) rfl rfl 51 rfl (fun v0 R0 t0 ht0 hp0 => ?_)
    obtain ⟨rfl, rfl⟩ := hp0
    refine q_eqs (st' := [.int (nI (k_wi bx b))]) rfl ?_
    refine q_eqR (Rs' := [wP, wQ]) rfl ?_
    have hc48 : k_wi bx b ≤ (bx b).length := k_wi_le _ _
    have hd48 : (bx b).length ≤ 20 := (hQ.2.1 b (by omega)).1
    exact q_iret C B dX7_tellsBox_51 rfl rfl (fun t0 ht0 => ⟨rfl, rfl⟩)
  · refine q_tableIn C dX7_tellsBox_1 52 (by decide) (by decide) rfl (by decide) ?_
    refine q_aload_n C dX7_tellsBox_52 53 0 rfl rfl ?_
    refine q_iload_n C dX7_tellsBox_53 54 1 rfl rfl ?_
    refine q_callV (k := 0) (ci := 6) (n := 1) (rest := []) (Rr := []) C rfl (k_isP_recv hP) rfl (c_X7_upmost l hZ hI h0 aS aZ aV aN aU aD fd hh wP hP bx at0 ln sc wQ hQ b (by omega)) gX7_tellsBox_X7_upmost rfl rfl rfl (by decide +kernel) B.1 ⟨Nat.le_of_ble_eq_true rfl, Nat.le_of_ble_eq_true rfl⟩ rfl rfl (Nat.le_of_ble_eq_true rfl) dX7_tellsBox_54 ⟨Nat.le_of_ble_eq_true rfl, Nat.le_of_ble_eq_true rfl⟩ [0, 1] [] (by decide : ([0, 1] ++ ([] : List Nat)).Perm (List.range 2)) rfl rfl 57 rfl (fun v0 R0 t0 ht0 hp0 => ?_)
    obtain ⟨rfl, rfl⟩ := hp0
    refine q_eqs (st' := [.int (k_top bx b 0)]) rfl ?_
    refine q_eqR (Rs' := [wP, wQ]) rfl ?_
    exact q_iret C B dX7_tellsBox_57 rfl rfl (fun t0 ht0 => ⟨rfl, rfl⟩)
  · refine q_tableIn C dX7_tellsBox_1 58 (by decide) (by decide) rfl (by decide) ?_
    refine q_iload_n C dX7_tellsBox_58 59 1 rfl rfl ?_
    refine q_callS (n := 1) (rest := []) (Rr := [wP, wQ]) C (c_X7_widthOf l hZ hI b (by omega)) gX7_tellsBox_X7_widthOf rfl rfl rfl (by decide +kernel) B.1 ⟨Nat.le_of_ble_eq_true rfl, Nat.le_of_ble_eq_true rfl⟩ rfl rfl (Nat.le_of_ble_eq_true rfl) dX7_tellsBox_59 ⟨Nat.le_of_ble_eq_true rfl, Nat.le_of_ble_eq_true rfl⟩ [] [0, 1] (by decide : ([] ++ ([0, 1] : List Nat)).Perm (List.range 2)) rfl rfl 62 rfl (fun v0 R0 t0 ht0 hp0 => ?_)
    obtain ⟨rfl, rfl⟩ := hp0
    refine q_eqs (st' := [.int (nI (k_wd b))]) rfl ?_
    refine q_eqR (Rs' := [wP, wQ]) rfl ?_
    have hw59 : k_wd b ≤ 4 := (k_wd_le _).2
    exact q_iret C B dX7_tellsBox_62 rfl rfl (fun t0 ht0 => ⟨rfl, rfl⟩)
  · refine q_tableIn C dX7_tellsBox_1 63 (by decide) (by decide) rfl (by decide) ?_
    refine q_aload_n C dX7_tellsBox_63 64 0 rfl rfl ?_
    obtain rfl := hP
    have hPo1 : k_isP cI h0 aS aZ aV aN aU aD fd hh [(h0, .inr (6, [.int (fd 0), .ref aS, .ref aZ, .ref aV, .int (fd 4), .ref aN, .int (fd 6), .ref aU, .int (fd 8), .int (fd 9), .int (fd 10), .ref aD, .int (fd 12), .int (fd 13), .int (fd 14), .long hh]))] := rfl
    refine q_get (k := 0) (j := 0) (f := 1) C hinX7 f7 (fun _ h => h) (by decide) rfl dX7_tellsBox_64 67 rfl rfl rfl rfl ?_
    refine q_iconst (v := nI 3) C dX7_tellsBox_67 68 rfl (by decide) ?_
    obtain ⟨hat2, hok2, hlok2, f2, hm2, rfl⟩ := hQ
    have hll2 := hlok2.1
    have hQo2 : k_isQ cI aS bx at0 ln sc [(aS, .inl (cI, 350, .inl f2))] := ⟨hat2, hok2, hlok2, f2, hm2, rfl⟩
    refine q_iald (k := 1) (j := 0) (v := sc 3) C dX7_tellsBox_68 69 rfl rfl rfl hcI 3 rfl (by omega) (by decide) (hm2.1 3 (by decide) (by decide)) ?_
    refine q_iload_n C dX7_tellsBox_69 70 1 rfl rfl ?_
    refine q_icmp_ne C dX7_tellsBox_70 73 77 rfl (by decide) Iff.rfl (fun h70 => ?_) (fun h70 => ?_)
    · refine q_iconst (v := nI 0) C dX7_tellsBox_77 78 rfl (by decide) ?_
      exact q_iret C B dX7_tellsBox_78 rfl rfl (fun t0 ht0 => ⟨by first | (rw [show k_tb bx at0 sc b 4 = q_b (decide (sc 3 = nI b)) from rfl, decide_eq_true h70]; rfl) | (rw [show k_tb bx at0 sc b 4 = q_b (decide (sc 3 = nI b)) from rfl, decide_eq_false h70]; rfl), rfl⟩)
    · refine q_iconst (v := nI 1) C dX7_tellsBox_73 74 rfl (by decide) ?_
      refine q_goto C dX7_tellsBox_74 78 (by decide) ?_
      exact q_iret C B dX7_tellsBox_78 rfl rfl (fun t0 ht0 => ⟨by first | (rw [show k_tb bx at0 sc b 4 = q_b (decide (sc 3 = nI b)) from rfl, decide_eq_true h70]; rfl) | (rw [show k_tb bx at0 sc b 4 = q_b (decide (sc 3 = nI b)) from rfl, decide_eq_false h70]; rfl), rfl⟩)
  · refine q_tableIn C dX7_tellsBox_1 79 (by decide) (by decide) rfl (by decide) ?_
    refine q_aload_n C dX7_tellsBox_79 80 0 rfl rfl ?_
    obtain rfl := hP
    have hPo3 : k_isP cI h0 aS aZ aV aN aU aD fd hh [(h0, .inr (6, [.int (fd 0), .ref aS, .ref aZ, .ref aV, .int (fd 4), .ref aN, .int (fd 6), .ref aU, .int (fd 8), .int (fd 9), .int (fd 10), .ref aD, .int (fd 12), .int (fd 13), .int (fd 14), .long hh]))] := rfl
    refine q_get (k := 0) (j := 0) (f := 1) C hinX7 f7 (fun _ h => h) (by decide) rfl dX7_tellsBox_80 83 rfl rfl rfl rfl ?_
    refine q_iconst (v := nI 4) C dX7_tellsBox_83 84 rfl (by decide) ?_
    obtain ⟨hat4, hok4, hlok4, f4, hm4, rfl⟩ := hQ
    have hll4 := hlok4.1
    have hQo4 : k_isQ cI aS bx at0 ln sc [(aS, .inl (cI, 350, .inl f4))] := ⟨hat4, hok4, hlok4, f4, hm4, rfl⟩
    refine q_iald (k := 1) (j := 0) (v := nI at0) C dX7_tellsBox_84 85 rfl rfl rfl hcI 4 rfl (by omega) (by decide) (hm4.2.1) ?_
    refine q_iload_n C dX7_tellsBox_85 86 1 rfl rfl ?_
    refine q_icmp_ne C dX7_tellsBox_86 89 93 rfl (by decide) (nI_eq (by omega) (by omega)) (fun h86 => ?_) (fun h86 => ?_)
    · refine q_iconst (v := nI 0) C dX7_tellsBox_93 94 rfl (by decide) ?_
      exact q_iret C B dX7_tellsBox_94 rfl rfl (fun t0 ht0 => ⟨by first | (rw [show k_tb bx at0 sc b 5 = q_b (decide (at0 = b)) from rfl, decide_eq_true (by omega)]; rfl) | (rw [show k_tb bx at0 sc b 5 = q_b (decide (at0 = b)) from rfl, decide_eq_false (by omega)]; rfl), rfl⟩)
    · refine q_iconst (v := nI 1) C dX7_tellsBox_89 90 rfl (by decide) ?_
      refine q_goto C dX7_tellsBox_90 94 (by decide) ?_
      exact q_iret C B dX7_tellsBox_94 rfl rfl (fun t0 ht0 => ⟨by first | (rw [show k_tb bx at0 sc b 5 = q_b (decide (at0 = b)) from rfl, decide_eq_true (by omega)]; rfl) | (rw [show k_tb bx at0 sc b 5 = q_b (decide (at0 = b)) from rfl, decide_eq_false (by omega)]; rfl), rfl⟩)
  · refine q_tableOut C dX7_tellsBox_1 95 (by decide) (by decide) ?_
    refine q_aload_n C dX7_tellsBox_95 96 0 rfl rfl ?_
    refine q_iload_n C dX7_tellsBox_96 97 1 rfl rfl ?_
    refine q_callV (k := 0) (ci := 6) (n := 1) (rest := []) (Rr := []) C rfl (k_isP_recv hP) rfl (c_X7_elsewhere l hZ hI h0 aS aZ aV aN aU aD fd hh wP hP bx at0 ln sc wQ hQ b (by omega)) gX7_tellsBox_X7_elsewhere rfl rfl rfl (by decide +kernel) B.1 ⟨Nat.le_of_ble_eq_true rfl, Nat.le_of_ble_eq_true rfl⟩ rfl rfl (Nat.le_of_ble_eq_true rfl) dX7_tellsBox_97 ⟨Nat.le_of_ble_eq_true rfl, Nat.le_of_ble_eq_true rfl⟩ [0, 1] [] (by decide : ([0, 1] ++ ([] : List Nat)).Perm (List.range 2)) rfl rfl 100 rfl (fun v0 R0 t0 ht0 hp0 => ?_)
    obtain ⟨rfl, rfl⟩ := hp0
    refine q_eqs (st' := [.int (nI (k_st bx b))]) rfl ?_
    refine q_eqR (Rs' := [wP, wQ]) rfl ?_
    exact q_iret C B dX7_tellsBox_100 rfl rfl (fun t0 ht0 => ⟨rfl, rfl⟩)

set_option maxHeartbeats 400000 in
set_option maxRecDepth 100000 in
theorem c_X7_box_a (l : Launch) {D : va_G} {tys : List (ClassId × FieldType)} {Z : (Nat → Prop) → State → Heap → Prop} (hZ : q_St Z) {cI : ClassId} (hI : tys[0]? = some (cI, .int)) (h0 : Nat) (aS : Nat) (aZ : Nat) (aV : Nat) (aN : Nat) (aU : Nat) (aD : Nat) (fd : Nat → Int32) (hh : Int64) (w : va_W) (h : k_isP cI h0 aS aZ aV aN aU aD fd hh w) (v : Int32) (v2 : Int32) (hbad : ¬ ((0 : Int32) ≤ v ∧ v ≤ 11)) : q_Ct l D tys Z yX7_box wsX7_box ({ frames := 4, cells := 0, slots := 0, locals := 132 } : Room) 0 0 [.ref h0, .int v, .int v2] [w] (fun v0 R0 _ => v0 = some (.int (nI 0)) ∧ ∃ w', k_isP cI h0 aS aZ aV aN aU aD (upd (upd fd 0 (nI 0)) 0 (nI 1)) hh w' ∧ R0 = [w']) := by
  have hcI := hI
  refine q_ct (cc := cX7_box) (maxL := 3) (ret := (some .int)) (own := RX7) (by decide) rfl hZ (Nat.le_of_ble_eq_true rfl) rfl ?_
  intro p9 e9 R s9 m9 args below meth c9 A Q C B
  have hts := C.2.2.2.2.1
  have hinX7 : ∀ w ∈ u_ws RX7 TX7 16, w ∈ wsX7_box := by decide +kernel
  have f28 := hts (.fieldLink RX7 28 "SortCasesModel" "thrown" "I") (by decide +kernel)
  refine q_eqL (L' := [(0, .ref h0), (1, .int v), (2, .int v2)]) rfl ?_
  refine q_aload_n C dX7_box_0 1 0 rfl rfl ?_
  refine q_iconst (v := nI 0) C dX7_box_1 2 rfl (by decide) ?_
  obtain rfl := h
  have hPo1 : k_isP cI h0 aS aZ aV aN aU aD fd hh [(h0, .inr (6, [.int (fd 0), .ref aS, .ref aZ, .ref aV, .int (fd 4), .ref aN, .int (fd 6), .ref aU, .int (fd 8), .int (fd 9), .int (fd 10), .ref aD, .int (fd 12), .int (fd 13), .int (fd 14), .long hh]))] := rfl
  refine q_put (k := 0) (j := 0) (f := 0) C hinX7 tyX7 tyX7_ok nmX7 f28 (fun _ h => h) (by decide) rfl rfl (tyX7_ok 0 (by decide)) rfl rfl dX7_box_2 5 rfl rfl rfl (Nat.le_of_ble_eq_true rfl) [[(h0, .inr (6, [.int (nI 0), .ref aS, .ref aZ, .ref aV, .int (fd 4), .ref aN, .int (fd 6), .ref aU, .int (fd 8), .int (fd 9), .int (fd 10), .ref aD, .int (fd 12), .int (fd 13), .int (fd 14), .long hh]))]] rfl ?_
  have hPp2 : k_isP cI h0 aS aZ aV aN aU aD (upd fd 0 (nI 0)) hh [(h0, .inr (6, [.int (nI 0), .ref aS, .ref aZ, .ref aV, .int (fd 4), .ref aN, .int (fd 6), .ref aU, .int (fd 8), .int (fd 9), .int (fd 10), .ref aD, .int (fd 12), .int (fd 13), .int (fd 14), .long hh]))] := rfl
  refine q_iload_n C dX7_box_5 6 1 rfl rfl ?_
  refine q_callS (n := 1) (rest := []) (Rr := [[(h0, .inr (6, [.int (nI 0), .ref aS, .ref aZ, .ref aV, .int (fd 4), .ref aN, .int (fd 6), .ref aU, .int (fd 8), .int (fd 9), .int (fd 10), .ref aD, .int (fd 12), .int (fd 13), .int (fd 14), .long hh]))]]) C (c_X7_isBox_f l hZ hI v hbad) gX7_box_X7_isBox rfl rfl rfl (by decide +kernel) B.1 ⟨Nat.le_of_ble_eq_true rfl, Nat.le_of_ble_eq_true rfl⟩ rfl rfl (Nat.le_of_ble_eq_true rfl) dX7_box_6 ⟨Nat.le_of_ble_eq_true rfl, Nat.le_of_ble_eq_true rfl⟩ [] [0] (by decide : ([] ++ ([0] : List Nat)).Perm (List.range 1)) rfl rfl 9 rfl (fun v0 R0 t0 ht0 hp0 => ?_)
  obtain ⟨rfl, rfl⟩ := hp0
  refine q_eqs (st' := [.int (nI 0)]) rfl ?_
  refine q_eqR (Rs' := [[(h0, .inr (6, [.int (nI 0), .ref aS, .ref aZ, .ref aV, .int (fd 4), .ref aN, .int (fd 6), .ref aU, .int (fd 8), .int (fd 9), .int (fd 10), .ref aD, .int (fd 12), .int (fd 13), .int (fd 14), .long hh]))]]) rfl ?_
  refine q_if_ne C dX7_box_9 12 18 rfl (by decide) (q_eq0 (by omega)) (fun h9 => False.elim (by first | omega | simp_all)) (fun h9 => ?_)
  refine q_aload_n C dX7_box_12 13 0 rfl rfl ?_
  refine q_iconst (v := nI 1) C dX7_box_13 14 rfl (by decide) ?_
  refine q_callV (k := 0) (ci := 6) (n := 1) (rest := []) (Rr := []) C rfl (k_isP_recv hPp2) rfl (c_X7_fails l hZ hI h0 aS aZ aV aN aU aD (upd fd 0 (nI 0)) hh ([(h0, .inr (6, [.int (nI 0), .ref aS, .ref aZ, .ref aV, .int (fd 4), .ref aN, .int (fd 6), .ref aU, .int (fd 8), .int (fd 9), .int (fd 10), .ref aD, .int (fd 12), .int (fd 13), .int (fd 14), .long hh]))]) hPp2 (nI 1)) gX7_box_X7_fails rfl rfl rfl (by decide +kernel) B.1 ⟨Nat.le_of_ble_eq_true rfl, Nat.le_of_ble_eq_true rfl⟩ rfl rfl (Nat.le_of_ble_eq_true rfl) dX7_box_14 ⟨Nat.le_of_ble_eq_true rfl, Nat.le_of_ble_eq_true rfl⟩ [0] [] (by decide : ([0] ++ ([] : List Nat)).Perm (List.range 1)) rfl rfl 17 rfl (fun v0 R0 t0 ht0 hp0 => ?_)
  obtain ⟨rfl, w_14, hw_14, rfl⟩ := hp0
  refine q_eqs (st' := [.int (nI 0)]) rfl ?_
  refine q_eqR (Rs' := [w_14]) rfl ?_
  exact q_iret C B dX7_box_17 rfl rfl (fun t0 ht0 => ⟨rfl, _, hw_14, by first | rfl | simp⟩)

set_option maxHeartbeats 400000 in
set_option maxRecDepth 100000 in
theorem c_X7_box_b (l : Launch) {D : va_G} {tys : List (ClassId × FieldType)} {Z : (Nat → Prop) → State → Heap → Prop} (hZ : q_St Z) {cI : ClassId} (hI : tys[0]? = some (cI, .int)) (h0 : Nat) (aS : Nat) (aZ : Nat) (aV : Nat) (aN : Nat) (aU : Nat) (aD : Nat) (fd : Nat → Int32) (hh : Int64) (w : va_W) (h : k_isP cI h0 aS aZ aV aN aU aD fd hh w) (b : Nat) (v : Int32) (hb : b < 12) (hbad : ¬ (nI 0 ≤ v ∧ v ≤ nI 6)) : q_Ct l D tys Z yX7_box wsX7_box ({ frames := 4, cells := 0, slots := 0, locals := 132 } : Room) 0 0 [.ref h0, .int (nI b), .int v] [w] (fun v0 R0 _ => v0 = some (.int (nI 0)) ∧ ∃ w', k_isP cI h0 aS aZ aV aN aU aD (upd (upd fd 0 (nI 0)) 0 (nI 2)) hh w' ∧ R0 = [w']) := by
  have hcI := hI
  refine q_ct (cc := cX7_box) (maxL := 3) (ret := (some .int)) (own := RX7) (by decide) rfl hZ (Nat.le_of_ble_eq_true rfl) rfl ?_
  intro p9 e9 R s9 m9 args below meth c9 A Q C B
  have hts := C.2.2.2.2.1
  have hinX7 : ∀ w ∈ u_ws RX7 TX7 16, w ∈ wsX7_box := by decide +kernel
  have f28 := hts (.fieldLink RX7 28 "SortCasesModel" "thrown" "I") (by decide +kernel)
  refine q_eqL (L' := [(0, .ref h0), (1, .int (nI b)), (2, .int v)]) rfl ?_
  refine q_aload_n C dX7_box_0 1 0 rfl rfl ?_
  refine q_iconst (v := nI 0) C dX7_box_1 2 rfl (by decide) ?_
  obtain rfl := h
  have hPo1 : k_isP cI h0 aS aZ aV aN aU aD fd hh [(h0, .inr (6, [.int (fd 0), .ref aS, .ref aZ, .ref aV, .int (fd 4), .ref aN, .int (fd 6), .ref aU, .int (fd 8), .int (fd 9), .int (fd 10), .ref aD, .int (fd 12), .int (fd 13), .int (fd 14), .long hh]))] := rfl
  refine q_put (k := 0) (j := 0) (f := 0) C hinX7 tyX7 tyX7_ok nmX7 f28 (fun _ h => h) (by decide) rfl rfl (tyX7_ok 0 (by decide)) rfl rfl dX7_box_2 5 rfl rfl rfl (Nat.le_of_ble_eq_true rfl) [[(h0, .inr (6, [.int (nI 0), .ref aS, .ref aZ, .ref aV, .int (fd 4), .ref aN, .int (fd 6), .ref aU, .int (fd 8), .int (fd 9), .int (fd 10), .ref aD, .int (fd 12), .int (fd 13), .int (fd 14), .long hh]))]] rfl ?_
  have hPp2 : k_isP cI h0 aS aZ aV aN aU aD (upd fd 0 (nI 0)) hh [(h0, .inr (6, [.int (nI 0), .ref aS, .ref aZ, .ref aV, .int (fd 4), .ref aN, .int (fd 6), .ref aU, .int (fd 8), .int (fd 9), .int (fd 10), .ref aD, .int (fd 12), .int (fd 13), .int (fd 14), .long hh]))] := rfl
  refine q_iload_n C dX7_box_5 6 1 rfl rfl ?_
  refine q_callS (n := 1) (rest := []) (Rr := [[(h0, .inr (6, [.int (nI 0), .ref aS, .ref aZ, .ref aV, .int (fd 4), .ref aN, .int (fd 6), .ref aU, .int (fd 8), .int (fd 9), .int (fd 10), .ref aD, .int (fd 12), .int (fd 13), .int (fd 14), .long hh]))]]) C (c_X7_isBox_t l hZ hI (nI b) (k_b12 (by omega))) gX7_box_X7_isBox rfl rfl rfl (by decide +kernel) B.1 ⟨Nat.le_of_ble_eq_true rfl, Nat.le_of_ble_eq_true rfl⟩ rfl rfl (Nat.le_of_ble_eq_true rfl) dX7_box_6 ⟨Nat.le_of_ble_eq_true rfl, Nat.le_of_ble_eq_true rfl⟩ [] [0] (by decide : ([] ++ ([0] : List Nat)).Perm (List.range 1)) rfl rfl 9 rfl (fun v0 R0 t0 ht0 hp0 => ?_)
  obtain ⟨rfl, rfl⟩ := hp0
  refine q_eqs (st' := [.int (nI 1)]) rfl ?_
  refine q_eqR (Rs' := [[(h0, .inr (6, [.int (nI 0), .ref aS, .ref aZ, .ref aV, .int (fd 4), .ref aN, .int (fd 6), .ref aU, .int (fd 8), .int (fd 9), .int (fd 10), .ref aD, .int (fd 12), .int (fd 13), .int (fd 14), .long hh]))]]) rfl ?_
  refine q_if_ne C dX7_box_9 12 18 rfl (by decide) (q_eq0 (by omega)) (fun h9 => ?_) (fun h9 => False.elim (by first | omega | simp_all))
  refine q_iload_n C dX7_box_18 19 2 rfl rfl ?_
  refine q_iconst (v := nI 0) C dX7_box_19 20 rfl (by decide) ?_
  refine q_bipush (v := nI 6) C dX7_box_20 22 rfl (by decide) ?_
  refine q_callS (n := 3) (rest := []) (Rr := [[(h0, .inr (6, [.int (nI 0), .ref aS, .ref aZ, .ref aV, .int (fd 4), .ref aN, .int (fd 6), .ref aU, .int (fd 8), .int (fd 9), .int (fd 10), .ref aD, .int (fd 12), .int (fd 13), .int (fd 14), .long hh]))]]) C (c_X7_in_f l hZ hI v (nI 0) (nI 6) hbad) gX7_box_X7_in rfl rfl rfl (by decide +kernel) B.1 ⟨Nat.le_of_ble_eq_true rfl, Nat.le_of_ble_eq_true rfl⟩ rfl rfl (Nat.le_of_ble_eq_true rfl) dX7_box_22 ⟨Nat.le_of_ble_eq_true rfl, Nat.le_of_ble_eq_true rfl⟩ [] [0] (by decide : ([] ++ ([0] : List Nat)).Perm (List.range 1)) rfl rfl 25 rfl (fun v0 R0 t0 ht0 hp0 => ?_)
  obtain ⟨rfl, rfl⟩ := hp0
  refine q_eqs (st' := [.int (nI 0)]) rfl ?_
  refine q_eqR (Rs' := [[(h0, .inr (6, [.int (nI 0), .ref aS, .ref aZ, .ref aV, .int (fd 4), .ref aN, .int (fd 6), .ref aU, .int (fd 8), .int (fd 9), .int (fd 10), .ref aD, .int (fd 12), .int (fd 13), .int (fd 14), .long hh]))]]) rfl ?_
  refine q_if_eq C dX7_box_25 28 37 rfl (by decide) (q_eq0 (by omega)) (fun h25 => ?_) (fun h25 => False.elim (by first | omega | simp_all))
  refine q_aload_n C dX7_box_37 38 0 rfl rfl ?_
  refine q_iconst (v := nI 2) C dX7_box_38 39 rfl (by decide) ?_
  refine q_callV (k := 0) (ci := 6) (n := 1) (rest := []) (Rr := []) C rfl (k_isP_recv hPp2) rfl (c_X7_fails l hZ hI h0 aS aZ aV aN aU aD (upd fd 0 (nI 0)) hh ([(h0, .inr (6, [.int (nI 0), .ref aS, .ref aZ, .ref aV, .int (fd 4), .ref aN, .int (fd 6), .ref aU, .int (fd 8), .int (fd 9), .int (fd 10), .ref aD, .int (fd 12), .int (fd 13), .int (fd 14), .long hh]))]) hPp2 (nI 2)) gX7_box_X7_fails rfl rfl rfl (by decide +kernel) B.1 ⟨Nat.le_of_ble_eq_true rfl, Nat.le_of_ble_eq_true rfl⟩ rfl rfl (Nat.le_of_ble_eq_true rfl) dX7_box_39 ⟨Nat.le_of_ble_eq_true rfl, Nat.le_of_ble_eq_true rfl⟩ [0] [] (by decide : ([0] ++ ([] : List Nat)).Perm (List.range 1)) rfl rfl 42 rfl (fun v0 R0 t0 ht0 hp0 => ?_)
  obtain ⟨rfl, w_39, hw_39, rfl⟩ := hp0
  refine q_eqs (st' := [.int (nI 0)]) rfl ?_
  refine q_eqR (Rs' := [w_39]) rfl ?_
  exact q_iret C B dX7_box_42 rfl rfl (fun t0 ht0 => ⟨rfl, _, hw_39, by first | rfl | simp⟩)

set_option maxHeartbeats 400000 in
set_option maxRecDepth 100000 in
theorem c_X7_box_c (l : Launch) {D : va_G} {tys : List (ClassId × FieldType)} {Z : (Nat → Prop) → State → Heap → Prop} (hZ : q_St Z) {cI : ClassId} (hI : tys[0]? = some (cI, .int)) (h0 : Nat) (aS : Nat) (aZ : Nat) (aV : Nat) (aN : Nat) (aU : Nat) (aD : Nat) (fd : Nat → Int32) (hh : Int64) (wP : va_W) (hP : k_isP cI h0 aS aZ aV aN aU aD fd hh wP) (bx : k_Bx) (at0 : Nat) (ln : List (Nat × Nat)) (sc : Nat → Int32) (wQ : va_W) (hQ : k_isQ cI aS bx at0 ln sc wQ) (b : Nat) (i : Nat) (hb : b < 12) (hi : i < 7) : q_Ct l D tys Z yX7_box wsX7_box ({ frames := 4, cells := 0, slots := 0, locals := 132 } : Room) 0 0 [.ref h0, .int (nI b), .int (nI i)] [wP, wQ] (fun v0 R0 _ => v0 = some (.int (k_tb bx at0 sc b i)) ∧ ∃ wP', k_isP cI h0 aS aZ aV aN aU aD (upd fd 0 (nI 0)) hh wP' ∧ R0 = [wP', wQ]) := by
  have hcI := hI
  refine q_ct (cc := cX7_box) (maxL := 3) (ret := (some .int)) (own := RX7) (by decide) rfl hZ (Nat.le_of_ble_eq_true rfl) rfl ?_
  intro p9 e9 R s9 m9 args below meth c9 A Q C B
  have hts := C.2.2.2.2.1
  have hinX7 : ∀ w ∈ u_ws RX7 TX7 16, w ∈ wsX7_box := by decide +kernel
  have f28 := hts (.fieldLink RX7 28 "SortCasesModel" "thrown" "I") (by decide +kernel)
  refine q_eqL (L' := [(0, .ref h0), (1, .int (nI b)), (2, .int (nI i))]) rfl ?_
  refine q_aload_n C dX7_box_0 1 0 rfl rfl ?_
  refine q_iconst (v := nI 0) C dX7_box_1 2 rfl (by decide) ?_
  obtain rfl := hP
  have hPo1 : k_isP cI h0 aS aZ aV aN aU aD fd hh [(h0, .inr (6, [.int (fd 0), .ref aS, .ref aZ, .ref aV, .int (fd 4), .ref aN, .int (fd 6), .ref aU, .int (fd 8), .int (fd 9), .int (fd 10), .ref aD, .int (fd 12), .int (fd 13), .int (fd 14), .long hh]))] := rfl
  refine q_put (k := 0) (j := 0) (f := 0) C hinX7 tyX7 tyX7_ok nmX7 f28 (fun _ h => h) (by decide) rfl rfl (tyX7_ok 0 (by decide)) rfl rfl dX7_box_2 5 rfl rfl rfl (Nat.le_of_ble_eq_true rfl) [[(h0, .inr (6, [.int (nI 0), .ref aS, .ref aZ, .ref aV, .int (fd 4), .ref aN, .int (fd 6), .ref aU, .int (fd 8), .int (fd 9), .int (fd 10), .ref aD, .int (fd 12), .int (fd 13), .int (fd 14), .long hh]))], wQ] rfl ?_
  have hPp2 : k_isP cI h0 aS aZ aV aN aU aD (upd fd 0 (nI 0)) hh [(h0, .inr (6, [.int (nI 0), .ref aS, .ref aZ, .ref aV, .int (fd 4), .ref aN, .int (fd 6), .ref aU, .int (fd 8), .int (fd 9), .int (fd 10), .ref aD, .int (fd 12), .int (fd 13), .int (fd 14), .long hh]))] := rfl
  refine q_iload_n C dX7_box_5 6 1 rfl rfl ?_
  refine q_callS (n := 1) (rest := []) (Rr := [[(h0, .inr (6, [.int (nI 0), .ref aS, .ref aZ, .ref aV, .int (fd 4), .ref aN, .int (fd 6), .ref aU, .int (fd 8), .int (fd 9), .int (fd 10), .ref aD, .int (fd 12), .int (fd 13), .int (fd 14), .long hh]))], wQ]) C (c_X7_isBox_t l hZ hI (nI b) (k_b12 (by omega))) gX7_box_X7_isBox rfl rfl rfl (by decide +kernel) B.1 ⟨Nat.le_of_ble_eq_true rfl, Nat.le_of_ble_eq_true rfl⟩ rfl rfl (Nat.le_of_ble_eq_true rfl) dX7_box_6 ⟨Nat.le_of_ble_eq_true rfl, Nat.le_of_ble_eq_true rfl⟩ [] [0, 1] (by decide : ([] ++ ([0, 1] : List Nat)).Perm (List.range 2)) rfl rfl 9 rfl (fun v0 R0 t0 ht0 hp0 => ?_)
  obtain ⟨rfl, rfl⟩ := hp0
  refine q_eqs (st' := [.int (nI 1)]) rfl ?_
  refine q_eqR (Rs' := [[(h0, .inr (6, [.int (nI 0), .ref aS, .ref aZ, .ref aV, .int (fd 4), .ref aN, .int (fd 6), .ref aU, .int (fd 8), .int (fd 9), .int (fd 10), .ref aD, .int (fd 12), .int (fd 13), .int (fd 14), .long hh]))], wQ]) rfl ?_
  refine q_if_ne C dX7_box_9 12 18 rfl (by decide) (q_eq0 (by omega)) (fun h9 => ?_) (fun h9 => False.elim (by first | omega | simp_all))
  refine q_iload_n C dX7_box_18 19 2 rfl rfl ?_
  refine q_iconst (v := nI 0) C dX7_box_19 20 rfl (by decide) ?_
  refine q_bipush (v := nI 6) C dX7_box_20 22 rfl (by decide) ?_
  refine q_callS (n := 3) (rest := []) (Rr := [[(h0, .inr (6, [.int (nI 0), .ref aS, .ref aZ, .ref aV, .int (fd 4), .ref aN, .int (fd 6), .ref aU, .int (fd 8), .int (fd 9), .int (fd 10), .ref aD, .int (fd 12), .int (fd 13), .int (fd 14), .long hh]))], wQ]) C (c_X7_in_t l hZ hI (nI i) (nI 0) (nI 6) (k_in2 (by omega) (by omega) (by omega))) gX7_box_X7_in rfl rfl rfl (by decide +kernel) B.1 ⟨Nat.le_of_ble_eq_true rfl, Nat.le_of_ble_eq_true rfl⟩ rfl rfl (Nat.le_of_ble_eq_true rfl) dX7_box_22 ⟨Nat.le_of_ble_eq_true rfl, Nat.le_of_ble_eq_true rfl⟩ [] [0, 1] (by decide : ([] ++ ([0, 1] : List Nat)).Perm (List.range 2)) rfl rfl 25 rfl (fun v0 R0 t0 ht0 hp0 => ?_)
  obtain ⟨rfl, rfl⟩ := hp0
  refine q_eqs (st' := [.int (nI 1)]) rfl ?_
  refine q_eqR (Rs' := [[(h0, .inr (6, [.int (nI 0), .ref aS, .ref aZ, .ref aV, .int (fd 4), .ref aN, .int (fd 6), .ref aU, .int (fd 8), .int (fd 9), .int (fd 10), .ref aD, .int (fd 12), .int (fd 13), .int (fd 14), .long hh]))], wQ]) rfl ?_
  refine q_if_eq C dX7_box_25 28 37 rfl (by decide) (q_eq0 (by omega)) (fun h25 => False.elim (by first | omega | simp_all)) (fun h25 => ?_)
  refine q_aload_n C dX7_box_28 29 0 rfl rfl ?_
  refine q_iload_n C dX7_box_29 30 1 rfl rfl ?_
  refine q_iload_n C dX7_box_30 31 2 rfl rfl ?_
  refine q_callV (k := 0) (ci := 6) (n := 2) (rest := []) (Rr := []) C rfl (k_isP_recv hPp2) rfl (c_X7_tellsBox l hZ hI h0 aS aZ aV aN aU aD (upd fd 0 (nI 0)) hh ([(h0, .inr (6, [.int (nI 0), .ref aS, .ref aZ, .ref aV, .int (fd 4), .ref aN, .int (fd 6), .ref aU, .int (fd 8), .int (fd 9), .int (fd 10), .ref aD, .int (fd 12), .int (fd 13), .int (fd 14), .long hh]))]) hPp2 bx at0 ln sc wQ hQ b i (by omega) (by omega)) gX7_box_X7_tellsBox rfl rfl rfl (by decide +kernel) B.1 ⟨Nat.le_of_ble_eq_true rfl, Nat.le_of_ble_eq_true rfl⟩ rfl rfl (Nat.le_of_ble_eq_true rfl) dX7_box_31 ⟨Nat.le_of_ble_eq_true rfl, Nat.le_of_ble_eq_true rfl⟩ [0, 1] [] (by decide : ([0, 1] ++ ([] : List Nat)).Perm (List.range 2)) rfl rfl 34 rfl (fun v0 R0 t0 ht0 hp0 => ?_)
  obtain ⟨rfl, rfl⟩ := hp0
  refine q_eqs (st' := [.int (k_tb bx at0 sc b i)]) rfl ?_
  refine q_eqR (Rs' := [[(h0, .inr (6, [.int (nI 0), .ref aS, .ref aZ, .ref aV, .int (fd 4), .ref aN, .int (fd 6), .ref aU, .int (fd 8), .int (fd 9), .int (fd 10), .ref aD, .int (fd 12), .int (fd 13), .int (fd 14), .long hh]))], wQ]) rfl ?_
  refine q_goto C dX7_box_34 42 (by decide) ?_
  exact q_iret C B dX7_box_42 rfl rfl (fun t0 ht0 => ⟨rfl, _, hPp2, by first | rfl | simp⟩)

set_option maxHeartbeats 400000 in
set_option maxRecDepth 100000 in
theorem c_X7_type_a (l : Launch) {D : va_G} {tys : List (ClassId × FieldType)} {Z : (Nat → Prop) → State → Heap → Prop} (hZ : q_St Z) {cI : ClassId} (hI : tys[0]? = some (cI, .int)) (h0 : Nat) (aS : Nat) (aZ : Nat) (aV : Nat) (aN : Nat) (aU : Nat) (aD : Nat) (fd : Nat → Int32) (hh : Int64) (w : va_W) (h : k_isP cI h0 aS aZ aV aN aU aD fd hh w) (v : Int32) (v2 : Int32) (hbad : ¬ ((0 : Int32) ≤ v ∧ v ≤ 11)) : q_Ct l D tys Z yX7_type wsX7_type ({ frames := 3, cells := 0, slots := 0, locals := 102 } : Room) 0 0 [.ref h0, .int v, .int v2] [w] (fun v0 R0 _ => v0 = some (.int (nI 0)) ∧ ∃ w', k_isP cI h0 aS aZ aV aN aU aD (upd (upd fd 0 (nI 0)) 0 (nI 1)) hh w' ∧ R0 = [w']) := by
  have hcI := hI
  refine q_ct (cc := cX7_type) (maxL := 3) (ret := (some .int)) (own := RX7) (by decide) rfl hZ (Nat.le_of_ble_eq_true rfl) rfl ?_
  intro p9 e9 R s9 m9 args below meth c9 A Q C B
  have hts := C.2.2.2.2.1
  have hinX7 : ∀ w ∈ u_ws RX7 TX7 16, w ∈ wsX7_type := by decide +kernel
  have f28 := hts (.fieldLink RX7 28 "SortCasesModel" "thrown" "I") (by decide +kernel)
  refine q_eqL (L' := [(0, .ref h0), (1, .int v), (2, .int v2)]) rfl ?_
  refine q_aload_n C dX7_type_0 1 0 rfl rfl ?_
  refine q_iconst (v := nI 0) C dX7_type_1 2 rfl (by decide) ?_
  obtain rfl := h
  have hPo1 : k_isP cI h0 aS aZ aV aN aU aD fd hh [(h0, .inr (6, [.int (fd 0), .ref aS, .ref aZ, .ref aV, .int (fd 4), .ref aN, .int (fd 6), .ref aU, .int (fd 8), .int (fd 9), .int (fd 10), .ref aD, .int (fd 12), .int (fd 13), .int (fd 14), .long hh]))] := rfl
  refine q_put (k := 0) (j := 0) (f := 0) C hinX7 tyX7 tyX7_ok nmX7 f28 (fun _ h => h) (by decide) rfl rfl (tyX7_ok 0 (by decide)) rfl rfl dX7_type_2 5 rfl rfl rfl (Nat.le_of_ble_eq_true rfl) [[(h0, .inr (6, [.int (nI 0), .ref aS, .ref aZ, .ref aV, .int (fd 4), .ref aN, .int (fd 6), .ref aU, .int (fd 8), .int (fd 9), .int (fd 10), .ref aD, .int (fd 12), .int (fd 13), .int (fd 14), .long hh]))]] rfl ?_
  have hPp2 : k_isP cI h0 aS aZ aV aN aU aD (upd fd 0 (nI 0)) hh [(h0, .inr (6, [.int (nI 0), .ref aS, .ref aZ, .ref aV, .int (fd 4), .ref aN, .int (fd 6), .ref aU, .int (fd 8), .int (fd 9), .int (fd 10), .ref aD, .int (fd 12), .int (fd 13), .int (fd 14), .long hh]))] := rfl
  refine q_iload_n C dX7_type_5 6 1 rfl rfl ?_
  refine q_callS (n := 1) (rest := []) (Rr := [[(h0, .inr (6, [.int (nI 0), .ref aS, .ref aZ, .ref aV, .int (fd 4), .ref aN, .int (fd 6), .ref aU, .int (fd 8), .int (fd 9), .int (fd 10), .ref aD, .int (fd 12), .int (fd 13), .int (fd 14), .long hh]))]]) C (c_X7_isBox_f l hZ hI v hbad) gX7_type_X7_isBox rfl rfl rfl (by decide +kernel) B.1 ⟨Nat.le_of_ble_eq_true rfl, Nat.le_of_ble_eq_true rfl⟩ rfl rfl (Nat.le_of_ble_eq_true rfl) dX7_type_6 ⟨Nat.le_of_ble_eq_true rfl, Nat.le_of_ble_eq_true rfl⟩ [] [0] (by decide : ([] ++ ([0] : List Nat)).Perm (List.range 1)) rfl rfl 9 rfl (fun v0 R0 t0 ht0 hp0 => ?_)
  obtain ⟨rfl, rfl⟩ := hp0
  refine q_eqs (st' := [.int (nI 0)]) rfl ?_
  refine q_eqR (Rs' := [[(h0, .inr (6, [.int (nI 0), .ref aS, .ref aZ, .ref aV, .int (fd 4), .ref aN, .int (fd 6), .ref aU, .int (fd 8), .int (fd 9), .int (fd 10), .ref aD, .int (fd 12), .int (fd 13), .int (fd 14), .long hh]))]]) rfl ?_
  refine q_if_ne C dX7_type_9 12 18 rfl (by decide) (q_eq0 (by omega)) (fun h9 => False.elim (by first | omega | simp_all)) (fun h9 => ?_)
  refine q_aload_n C dX7_type_12 13 0 rfl rfl ?_
  refine q_iconst (v := nI 1) C dX7_type_13 14 rfl (by decide) ?_
  refine q_callV (k := 0) (ci := 6) (n := 1) (rest := []) (Rr := []) C rfl (k_isP_recv hPp2) rfl (c_X7_fails l hZ hI h0 aS aZ aV aN aU aD (upd fd 0 (nI 0)) hh ([(h0, .inr (6, [.int (nI 0), .ref aS, .ref aZ, .ref aV, .int (fd 4), .ref aN, .int (fd 6), .ref aU, .int (fd 8), .int (fd 9), .int (fd 10), .ref aD, .int (fd 12), .int (fd 13), .int (fd 14), .long hh]))]) hPp2 (nI 1)) gX7_type_X7_fails rfl rfl rfl (by decide +kernel) B.1 ⟨Nat.le_of_ble_eq_true rfl, Nat.le_of_ble_eq_true rfl⟩ rfl rfl (Nat.le_of_ble_eq_true rfl) dX7_type_14 ⟨Nat.le_of_ble_eq_true rfl, Nat.le_of_ble_eq_true rfl⟩ [0] [] (by decide : ([0] ++ ([] : List Nat)).Perm (List.range 1)) rfl rfl 17 rfl (fun v0 R0 t0 ht0 hp0 => ?_)
  obtain ⟨rfl, w_14, hw_14, rfl⟩ := hp0
  refine q_eqs (st' := [.int (nI 0)]) rfl ?_
  refine q_eqR (Rs' := [w_14]) rfl ?_
  exact q_iret C B dX7_type_17 rfl rfl (fun t0 ht0 => ⟨rfl, _, hw_14, by first | rfl | simp⟩)

set_option maxHeartbeats 400000 in
set_option maxRecDepth 100000 in
theorem c_X7_type_b (l : Launch) {D : va_G} {tys : List (ClassId × FieldType)} {Z : (Nat → Prop) → State → Heap → Prop} (hZ : q_St Z) {cI : ClassId} (hI : tys[0]? = some (cI, .int)) (h0 : Nat) (aS : Nat) (aZ : Nat) (aV : Nat) (aN : Nat) (aU : Nat) (aD : Nat) (fd : Nat → Int32) (hh : Int64) (w : va_W) (h : k_isP cI h0 aS aZ aV aN aU aD fd hh w) (b : Nat) (v : Int32) (hb : b < 12) (hbad : ¬ (0 : Int32) ≤ v) : q_Ct l D tys Z yX7_type wsX7_type ({ frames := 3, cells := 0, slots := 0, locals := 102 } : Room) 0 0 [.ref h0, .int (nI b), .int v] [w] (fun v0 R0 _ => v0 = some (.int (nI 0)) ∧ ∃ w', k_isP cI h0 aS aZ aV aN aU aD (upd (upd fd 0 (nI 0)) 0 (nI 2)) hh w' ∧ R0 = [w']) := by
  have hcI := hI
  refine q_ct (cc := cX7_type) (maxL := 3) (ret := (some .int)) (own := RX7) (by decide) rfl hZ (Nat.le_of_ble_eq_true rfl) rfl ?_
  intro p9 e9 R s9 m9 args below meth c9 A Q C B
  have hts := C.2.2.2.2.1
  have hinX7 : ∀ w ∈ u_ws RX7 TX7 16, w ∈ wsX7_type := by decide +kernel
  have f28 := hts (.fieldLink RX7 28 "SortCasesModel" "thrown" "I") (by decide +kernel)
  refine q_eqL (L' := [(0, .ref h0), (1, .int (nI b)), (2, .int v)]) rfl ?_
  refine q_aload_n C dX7_type_0 1 0 rfl rfl ?_
  refine q_iconst (v := nI 0) C dX7_type_1 2 rfl (by decide) ?_
  obtain rfl := h
  have hPo1 : k_isP cI h0 aS aZ aV aN aU aD fd hh [(h0, .inr (6, [.int (fd 0), .ref aS, .ref aZ, .ref aV, .int (fd 4), .ref aN, .int (fd 6), .ref aU, .int (fd 8), .int (fd 9), .int (fd 10), .ref aD, .int (fd 12), .int (fd 13), .int (fd 14), .long hh]))] := rfl
  refine q_put (k := 0) (j := 0) (f := 0) C hinX7 tyX7 tyX7_ok nmX7 f28 (fun _ h => h) (by decide) rfl rfl (tyX7_ok 0 (by decide)) rfl rfl dX7_type_2 5 rfl rfl rfl (Nat.le_of_ble_eq_true rfl) [[(h0, .inr (6, [.int (nI 0), .ref aS, .ref aZ, .ref aV, .int (fd 4), .ref aN, .int (fd 6), .ref aU, .int (fd 8), .int (fd 9), .int (fd 10), .ref aD, .int (fd 12), .int (fd 13), .int (fd 14), .long hh]))]] rfl ?_
  have hPp2 : k_isP cI h0 aS aZ aV aN aU aD (upd fd 0 (nI 0)) hh [(h0, .inr (6, [.int (nI 0), .ref aS, .ref aZ, .ref aV, .int (fd 4), .ref aN, .int (fd 6), .ref aU, .int (fd 8), .int (fd 9), .int (fd 10), .ref aD, .int (fd 12), .int (fd 13), .int (fd 14), .long hh]))] := rfl
  refine q_iload_n C dX7_type_5 6 1 rfl rfl ?_
  refine q_callS (n := 1) (rest := []) (Rr := [[(h0, .inr (6, [.int (nI 0), .ref aS, .ref aZ, .ref aV, .int (fd 4), .ref aN, .int (fd 6), .ref aU, .int (fd 8), .int (fd 9), .int (fd 10), .ref aD, .int (fd 12), .int (fd 13), .int (fd 14), .long hh]))]]) C (c_X7_isBox_t l hZ hI (nI b) (k_b12 (by omega))) gX7_type_X7_isBox rfl rfl rfl (by decide +kernel) B.1 ⟨Nat.le_of_ble_eq_true rfl, Nat.le_of_ble_eq_true rfl⟩ rfl rfl (Nat.le_of_ble_eq_true rfl) dX7_type_6 ⟨Nat.le_of_ble_eq_true rfl, Nat.le_of_ble_eq_true rfl⟩ [] [0] (by decide : ([] ++ ([0] : List Nat)).Perm (List.range 1)) rfl rfl 9 rfl (fun v0 R0 t0 ht0 hp0 => ?_)
  obtain ⟨rfl, rfl⟩ := hp0
  refine q_eqs (st' := [.int (nI 1)]) rfl ?_
  refine q_eqR (Rs' := [[(h0, .inr (6, [.int (nI 0), .ref aS, .ref aZ, .ref aV, .int (fd 4), .ref aN, .int (fd 6), .ref aU, .int (fd 8), .int (fd 9), .int (fd 10), .ref aD, .int (fd 12), .int (fd 13), .int (fd 14), .long hh]))]]) rfl ?_
  refine q_if_ne C dX7_type_9 12 18 rfl (by decide) (q_eq0 (by omega)) (fun h9 => ?_) (fun h9 => False.elim (by first | omega | simp_all))
  refine q_iload_n C dX7_type_18 19 2 rfl rfl ?_
  refine q_if_ge C dX7_type_19 22 28 rfl (by decide) Iff.rfl (fun h19 => False.elim (absurd h19 hbad)) (fun h19 => ?_)
  refine q_aload_n C dX7_type_22 23 0 rfl rfl ?_
  refine q_iconst (v := nI 2) C dX7_type_23 24 rfl (by decide) ?_
  refine q_callV (k := 0) (ci := 6) (n := 1) (rest := []) (Rr := []) C rfl (k_isP_recv hPp2) rfl (c_X7_fails l hZ hI h0 aS aZ aV aN aU aD (upd fd 0 (nI 0)) hh ([(h0, .inr (6, [.int (nI 0), .ref aS, .ref aZ, .ref aV, .int (fd 4), .ref aN, .int (fd 6), .ref aU, .int (fd 8), .int (fd 9), .int (fd 10), .ref aD, .int (fd 12), .int (fd 13), .int (fd 14), .long hh]))]) hPp2 (nI 2)) gX7_type_X7_fails rfl rfl rfl (by decide +kernel) B.1 ⟨Nat.le_of_ble_eq_true rfl, Nat.le_of_ble_eq_true rfl⟩ rfl rfl (Nat.le_of_ble_eq_true rfl) dX7_type_24 ⟨Nat.le_of_ble_eq_true rfl, Nat.le_of_ble_eq_true rfl⟩ [0] [] (by decide : ([0] ++ ([] : List Nat)).Perm (List.range 1)) rfl rfl 27 rfl (fun v0 R0 t0 ht0 hp0 => ?_)
  obtain ⟨rfl, w_24, hw_24, rfl⟩ := hp0
  refine q_eqs (st' := [.int (nI 0)]) rfl ?_
  refine q_eqR (Rs' := [w_24]) rfl ?_
  exact q_iret C B dX7_type_27 rfl rfl (fun t0 ht0 => ⟨rfl, _, hw_24, by first | rfl | simp⟩)

set_option maxHeartbeats 400000 in
set_option maxRecDepth 100000 in
theorem c_X7_type_c (l : Launch) {D : va_G} {tys : List (ClassId × FieldType)} {Z : (Nat → Prop) → State → Heap → Prop} (hZ : q_St Z) {cI : ClassId} (hI : tys[0]? = some (cI, .int)) (h0 : Nat) (aS : Nat) (aZ : Nat) (aV : Nat) (aN : Nat) (aU : Nat) (aD : Nat) (fd : Nat → Int32) (hh : Int64) (wP : va_W) (hP : k_isP cI h0 aS aZ aV aN aU aD fd hh wP) (bx : k_Bx) (at0 : Nat) (ln : List (Nat × Nat)) (sc : Nat → Int32) (wQ : va_W) (hQ : k_isQ cI aS bx at0 ln sc wQ) (b : Nat) (d : Nat) (hb : b < 12) (hd : d < 2147483648) : q_Ct l D tys Z yX7_type wsX7_type ({ frames := 3, cells := 0, slots := 0, locals := 102 } : Room) 0 0 [.ref h0, .int (nI b), .int (nI d)] [wP, wQ] (fun v0 R0 _ => v0 = some (.int (k_top bx b d)) ∧ ∃ wP', k_isP cI h0 aS aZ aV aN aU aD (upd fd 0 (nI 0)) hh wP' ∧ R0 = [wP', wQ]) := by
  have hcI := hI
  refine q_ct (cc := cX7_type) (maxL := 3) (ret := (some .int)) (own := RX7) (by decide) rfl hZ (Nat.le_of_ble_eq_true rfl) rfl ?_
  intro p9 e9 R s9 m9 args below meth c9 A Q C B
  have hts := C.2.2.2.2.1
  have hinX7 : ∀ w ∈ u_ws RX7 TX7 16, w ∈ wsX7_type := by decide +kernel
  have f28 := hts (.fieldLink RX7 28 "SortCasesModel" "thrown" "I") (by decide +kernel)
  refine q_eqL (L' := [(0, .ref h0), (1, .int (nI b)), (2, .int (nI d))]) rfl ?_
  refine q_aload_n C dX7_type_0 1 0 rfl rfl ?_
  refine q_iconst (v := nI 0) C dX7_type_1 2 rfl (by decide) ?_
  obtain rfl := hP
  have hPo1 : k_isP cI h0 aS aZ aV aN aU aD fd hh [(h0, .inr (6, [.int (fd 0), .ref aS, .ref aZ, .ref aV, .int (fd 4), .ref aN, .int (fd 6), .ref aU, .int (fd 8), .int (fd 9), .int (fd 10), .ref aD, .int (fd 12), .int (fd 13), .int (fd 14), .long hh]))] := rfl
  refine q_put (k := 0) (j := 0) (f := 0) C hinX7 tyX7 tyX7_ok nmX7 f28 (fun _ h => h) (by decide) rfl rfl (tyX7_ok 0 (by decide)) rfl rfl dX7_type_2 5 rfl rfl rfl (Nat.le_of_ble_eq_true rfl) [[(h0, .inr (6, [.int (nI 0), .ref aS, .ref aZ, .ref aV, .int (fd 4), .ref aN, .int (fd 6), .ref aU, .int (fd 8), .int (fd 9), .int (fd 10), .ref aD, .int (fd 12), .int (fd 13), .int (fd 14), .long hh]))], wQ] rfl ?_
  have hPp2 : k_isP cI h0 aS aZ aV aN aU aD (upd fd 0 (nI 0)) hh [(h0, .inr (6, [.int (nI 0), .ref aS, .ref aZ, .ref aV, .int (fd 4), .ref aN, .int (fd 6), .ref aU, .int (fd 8), .int (fd 9), .int (fd 10), .ref aD, .int (fd 12), .int (fd 13), .int (fd 14), .long hh]))] := rfl
  refine q_iload_n C dX7_type_5 6 1 rfl rfl ?_
  refine q_callS (n := 1) (rest := []) (Rr := [[(h0, .inr (6, [.int (nI 0), .ref aS, .ref aZ, .ref aV, .int (fd 4), .ref aN, .int (fd 6), .ref aU, .int (fd 8), .int (fd 9), .int (fd 10), .ref aD, .int (fd 12), .int (fd 13), .int (fd 14), .long hh]))], wQ]) C (c_X7_isBox_t l hZ hI (nI b) (k_b12 (by omega))) gX7_type_X7_isBox rfl rfl rfl (by decide +kernel) B.1 ⟨Nat.le_of_ble_eq_true rfl, Nat.le_of_ble_eq_true rfl⟩ rfl rfl (Nat.le_of_ble_eq_true rfl) dX7_type_6 ⟨Nat.le_of_ble_eq_true rfl, Nat.le_of_ble_eq_true rfl⟩ [] [0, 1] (by decide : ([] ++ ([0, 1] : List Nat)).Perm (List.range 2)) rfl rfl 9 rfl (fun v0 R0 t0 ht0 hp0 => ?_)
  obtain ⟨rfl, rfl⟩ := hp0
  refine q_eqs (st' := [.int (nI 1)]) rfl ?_
  refine q_eqR (Rs' := [[(h0, .inr (6, [.int (nI 0), .ref aS, .ref aZ, .ref aV, .int (fd 4), .ref aN, .int (fd 6), .ref aU, .int (fd 8), .int (fd 9), .int (fd 10), .ref aD, .int (fd 12), .int (fd 13), .int (fd 14), .long hh]))], wQ]) rfl ?_
  refine q_if_ne C dX7_type_9 12 18 rfl (by decide) (q_eq0 (by omega)) (fun h9 => ?_) (fun h9 => False.elim (by first | omega | simp_all))
  refine q_iload_n C dX7_type_18 19 2 rfl rfl ?_
  refine q_if_ge C dX7_type_19 22 28 rfl (by decide) (q_ge0 (by omega)) (fun h19 => ?_) (fun h19 => False.elim (by first | omega | simp_all))
  refine q_iload_n C dX7_type_28 29 2 rfl rfl ?_
  refine q_aload_n C dX7_type_29 30 0 rfl rfl ?_
  refine q_iload_n C dX7_type_30 31 1 rfl rfl ?_
  refine q_callV (k := 0) (ci := 6) (n := 1) (rest := [.int (nI d)]) (Rr := []) C rfl (k_isP_recv hPp2) rfl (c_X7_many_q l hZ hI h0 aS aZ aV aN aU aD (upd fd 0 (nI 0)) hh ([(h0, .inr (6, [.int (nI 0), .ref aS, .ref aZ, .ref aV, .int (fd 4), .ref aN, .int (fd 6), .ref aU, .int (fd 8), .int (fd 9), .int (fd 10), .ref aD, .int (fd 12), .int (fd 13), .int (fd 14), .long hh]))]) hPp2 bx at0 ln sc wQ hQ b (by omega)) gX7_type_X7_many rfl rfl rfl (by decide +kernel) B.1 ⟨Nat.le_of_ble_eq_true rfl, Nat.le_of_ble_eq_true rfl⟩ rfl rfl (Nat.le_of_ble_eq_true rfl) dX7_type_31 ⟨Nat.le_of_ble_eq_true rfl, Nat.le_of_ble_eq_true rfl⟩ [0, 1] [] (by decide : ([0, 1] ++ ([] : List Nat)).Perm (List.range 2)) rfl rfl 34 rfl (fun v0 R0 t0 ht0 hp0 => ?_)
  obtain ⟨rfl, rfl⟩ := hp0
  refine q_eqs (st' := [.int (nI ((bx b).length)), .int (nI d)]) rfl ?_
  refine q_eqR (Rs' := [[(h0, .inr (6, [.int (nI 0), .ref aS, .ref aZ, .ref aV, .int (fd 4), .ref aN, .int (fd 6), .ref aU, .int (fd 8), .int (fd 9), .int (fd 10), .ref aD, .int (fd 12), .int (fd 13), .int (fd 14), .long hh]))], wQ]) rfl ?_
  have hh31 : (bx b).length ≤ 20 := (hQ.2.1 b (by omega)).1
  refine q_icmp_ge C dX7_type_34 37 54 rfl (by decide) (nI_leI (by omega) (by omega)) (fun h34 => ?_) (fun h34 => ?_)
  · refine q_iconst (v := -1) C dX7_type_54 55 rfl (by decide) ?_
    exact q_iret C B dX7_type_55 rfl rfl (fun t0 ht0 => ⟨by first | rw [k_top_some (by omega)] | rw [k_top_none (by omega)], _, hPp2, rfl⟩)
  · refine q_aload_n C dX7_type_37 38 0 rfl rfl ?_
    refine q_iload_n C dX7_type_38 39 1 rfl rfl ?_
    refine q_aload_n C dX7_type_39 40 0 rfl rfl ?_
    refine q_iload_n C dX7_type_40 41 1 rfl rfl ?_
    refine q_callV (k := 0) (ci := 6) (n := 1) (rest := [.int (nI b), .ref h0]) (Rr := []) C rfl (k_isP_recv hPp2) rfl (c_X7_many_q l hZ hI h0 aS aZ aV aN aU aD (upd fd 0 (nI 0)) hh ([(h0, .inr (6, [.int (nI 0), .ref aS, .ref aZ, .ref aV, .int (fd 4), .ref aN, .int (fd 6), .ref aU, .int (fd 8), .int (fd 9), .int (fd 10), .ref aD, .int (fd 12), .int (fd 13), .int (fd 14), .long hh]))]) hPp2 bx at0 ln sc wQ hQ b (by omega)) gX7_type_X7_many rfl rfl rfl (by decide +kernel) B.1 ⟨Nat.le_of_ble_eq_true rfl, Nat.le_of_ble_eq_true rfl⟩ rfl rfl (Nat.le_of_ble_eq_true rfl) dX7_type_41 ⟨Nat.le_of_ble_eq_true rfl, Nat.le_of_ble_eq_true rfl⟩ [0, 1] [] (by decide : ([0, 1] ++ ([] : List Nat)).Perm (List.range 2)) rfl rfl 44 rfl (fun v0 R0 t0 ht0 hp0 => ?_)
    obtain ⟨rfl, rfl⟩ := hp0
    refine q_eqs (st' := [.int (nI ((bx b).length)), .int (nI b), .ref h0]) rfl ?_
    refine q_eqR (Rs' := [[(h0, .inr (6, [.int (nI 0), .ref aS, .ref aZ, .ref aV, .int (fd 4), .ref aN, .int (fd 6), .ref aU, .int (fd 8), .int (fd 9), .int (fd 10), .ref aD, .int (fd 12), .int (fd 13), .int (fd 14), .long hh]))], wQ]) rfl ?_
    have hh41 : (bx b).length ≤ 20 := (hQ.2.1 b (by omega)).1
    refine q_iconst (v := nI 1) C dX7_type_44 45 rfl (by decide) ?_
    refine q_isub (v := nI ((bx b).length - 1)) C dX7_type_45 46 rfl (q_nsub (by omega) (by omega)) ?_
    refine q_iload_n C dX7_type_46 47 2 rfl rfl ?_
    refine q_isub (v := nI ((bx b).length - 1 - d)) C dX7_type_47 48 rfl (q_nsub (by omega) (by omega)) ?_
    refine q_callV (k := 0) (ci := 6) (n := 2) (rest := []) (Rr := []) C rfl (k_isP_recv hPp2) rfl (c_X7_typeAt_q l hZ hI h0 aS aZ aV aN aU aD (upd fd 0 (nI 0)) hh ([(h0, .inr (6, [.int (nI 0), .ref aS, .ref aZ, .ref aV, .int (fd 4), .ref aN, .int (fd 6), .ref aU, .int (fd 8), .int (fd 9), .int (fd 10), .ref aD, .int (fd 12), .int (fd 13), .int (fd 14), .long hh]))]) hPp2 bx at0 ln sc wQ hQ b ((bx b).length - 1 - d) (by omega) (by omega)) gX7_type_X7_typeAt rfl rfl rfl (by decide +kernel) B.1 ⟨Nat.le_of_ble_eq_true rfl, Nat.le_of_ble_eq_true rfl⟩ rfl rfl (Nat.le_of_ble_eq_true rfl) dX7_type_48 ⟨Nat.le_of_ble_eq_true rfl, Nat.le_of_ble_eq_true rfl⟩ [0, 1] [] (by decide : ([0, 1] ++ ([] : List Nat)).Perm (List.range 2)) rfl rfl 51 rfl (fun v0 R0 t0 ht0 hp0 => ?_)
    obtain ⟨rfl, rfl⟩ := hp0
    refine q_eqs (st' := [.int (nI (k_at (bx b) ((bx b).length - 1 - d)))]) rfl ?_
    refine q_eqR (Rs' := [[(h0, .inr (6, [.int (nI 0), .ref aS, .ref aZ, .ref aV, .int (fd 4), .ref aN, .int (fd 6), .ref aU, .int (fd 8), .int (fd 9), .int (fd 10), .ref aD, .int (fd 12), .int (fd 13), .int (fd 14), .long hh]))], wQ]) rfl ?_
    have ht48 : k_at (bx b) ((bx b).length - 1 - d) < 12 := k_at_lt (hQ.2.1 b (by omega)).2 (by omega)
    refine q_goto C dX7_type_51 55 (by decide) ?_
    exact q_iret C B dX7_type_55 rfl rfl (fun t0 ht0 => ⟨by first | rw [k_top_some (by omega)] | rw [k_top_none (by omega)], _, hPp2, rfl⟩)

set_option maxHeartbeats 400000 in
set_option maxRecDepth 100000 in
theorem c_X7_tellsPlace (l : Launch) {D : va_G} {tys : List (ClassId × FieldType)} {Z : (Nat → Prop) → State → Heap → Prop} (hZ : q_St Z) {cI : ClassId} (hI : tys[0]? = some (cI, .int)) (h0 : Nat) (aS : Nat) (aZ : Nat) (aV : Nat) (aN : Nat) (aU : Nat) (aD : Nat) (fd : Nat → Int32) (hh : Int64) (wP : va_W) (hP : k_isP cI h0 aS aZ aV aN aU aD fd hh wP) (bx : k_Bx) (at0 : Nat) (ln : List (Nat × Nat)) (sc : Nat → Int32) (wQ : va_W) (hQ : k_isQ cI aS bx at0 ln sc wQ) (k : Nat) (i : Nat) (hk : k < ln.length) (hi : i < 4) : q_Ct l D tys Z yX7_tellsPlace wsX7_tellsPlace ({ frames := 4, cells := 0, slots := 0, locals := 132 } : Room) 0 0 [.ref h0, .int (nI k), .int (nI i)] [wP, wQ] (fun v0 R0 _ => v0 = some (.int (k_tp bx ln sc k i)) ∧ R0 = [wP, wQ]) := by
  have hcI := hI
  refine q_ct (cc := cX7_tellsPlace) (maxL := 3) (ret := (some .int)) (own := RX7) (by decide) rfl hZ (Nat.le_of_ble_eq_true rfl) rfl ?_
  intro p9 e9 R s9 m9 args below meth c9 A Q C B
  have hts := C.2.2.2.2.1
  have hinX7 : ∀ w ∈ u_ws RX7 TX7 16, w ∈ wsX7_tellsPlace := by decide +kernel
  have f7 := hts (.fieldLink RX7 7 "SortCasesModel" "s" "[I") (by decide +kernel)
  refine q_eqL (L' := [(0, .ref h0), (1, .int (nI k)), (2, .int (nI i))]) rfl ?_
  rcases (by omega : i = 0 ∨ i = 1 ∨ i = 2 ∨ i = 3) with rfl | rfl | rfl | rfl
  · refine q_iload_n C dX7_tellsPlace_0 1 2 rfl rfl ?_
    refine q_if_ne C dX7_tellsPlace_1 4 16 rfl (by decide) (q_eq0 (by omega)) (fun h1 => False.elim (by first | omega | simp_all)) (fun h1 => ?_)
    refine q_aload_n C dX7_tellsPlace_4 5 0 rfl rfl ?_
    obtain rfl := hP
    have hPo1 : k_isP cI h0 aS aZ aV aN aU aD fd hh [(h0, .inr (6, [.int (fd 0), .ref aS, .ref aZ, .ref aV, .int (fd 4), .ref aN, .int (fd 6), .ref aU, .int (fd 8), .int (fd 9), .int (fd 10), .ref aD, .int (fd 12), .int (fd 13), .int (fd 14), .long hh]))] := rfl
    refine q_get (k := 0) (j := 0) (f := 1) C hinX7 f7 (fun _ h => h) (by decide) rfl dX7_tellsPlace_5 8 rfl rfl rfl rfl ?_
    refine q_bipush (v := nI 13) C dX7_tellsPlace_8 10 rfl (by decide) ?_
    refine q_iload_n C dX7_tellsPlace_10 11 1 rfl rfl ?_
    refine q_iadd (v := nI (k + 13)) C dX7_tellsPlace_11 12 rfl (q_nadd (by omega)) ?_
    obtain ⟨hat2, hok2, hlok2, f2, hm2, rfl⟩ := hQ
    have hll2 := hlok2.1
    have hQo2 : k_isQ cI aS bx at0 ln sc [(aS, .inl (cI, 350, .inl f2))] := ⟨hat2, hok2, hlok2, f2, hm2, rfl⟩
    refine q_iald (k := 1) (j := 0) (v := nI ((k_la ln k).1)) C dX7_tellsPlace_12 13 rfl rfl rfl hcI (k + 13) rfl (by omega) (by decide) ((hm2.2.2.2.1 k (by omega)).1) ?_
    have hla12_1 : (k_la ln k).1 < 12 := (k_la_lt hlok2 (by omega)).1
    refine q_goto C dX7_tellsPlace_13 59 (by decide) ?_
    exact q_iret C B dX7_tellsPlace_59 rfl rfl (fun t0 ht0 => ⟨by first | rfl | (rw [show k_tp bx ln sc k 2 = q_b (decide (¬ (k_la ln k).1 = (k_la ln k).2)) from rfl, decide_eq_true (by simpa using h43)]; rfl) | (rw [show k_tp bx ln sc k 2 = q_b (decide (¬ (k_la ln k).1 = (k_la ln k).2)) from rfl, decide_eq_false (by simpa using h43)]; rfl), rfl⟩)
  · refine q_iload_n C dX7_tellsPlace_0 1 2 rfl rfl ?_
    refine q_if_ne C dX7_tellsPlace_1 4 16 rfl (by decide) (q_eq0 (by omega)) (fun h1 => ?_) (fun h1 => False.elim (by first | omega | simp_all))
    refine q_iload_n C dX7_tellsPlace_16 17 2 rfl rfl ?_
    refine q_iconst (v := nI 1) C dX7_tellsPlace_17 18 rfl (by decide) ?_
    refine q_icmp_ne C dX7_tellsPlace_18 21 33 rfl (by decide) (nI_eq (by omega) (by omega)) (fun h18 => False.elim (by first | omega | simp_all)) (fun h18 => ?_)
    refine q_aload_n C dX7_tellsPlace_21 22 0 rfl rfl ?_
    obtain rfl := hP
    have hPo3 : k_isP cI h0 aS aZ aV aN aU aD fd hh [(h0, .inr (6, [.int (fd 0), .ref aS, .ref aZ, .ref aV, .int (fd 4), .ref aN, .int (fd 6), .ref aU, .int (fd 8), .int (fd 9), .int (fd 10), .ref aD, .int (fd 12), .int (fd 13), .int (fd 14), .long hh]))] := rfl
    refine q_get (k := 0) (j := 0) (f := 1) C hinX7 f7 (fun _ h => h) (by decide) rfl dX7_tellsPlace_22 25 rfl rfl rfl rfl ?_
    refine q_bipush (v := nI 54) C dX7_tellsPlace_25 27 rfl (by decide) ?_
    refine q_iload_n C dX7_tellsPlace_27 28 1 rfl rfl ?_
    refine q_iadd (v := nI (k + 54)) C dX7_tellsPlace_28 29 rfl (q_nadd (by omega)) ?_
    obtain ⟨hat4, hok4, hlok4, f4, hm4, rfl⟩ := hQ
    have hll4 := hlok4.1
    have hQo4 : k_isQ cI aS bx at0 ln sc [(aS, .inl (cI, 350, .inl f4))] := ⟨hat4, hok4, hlok4, f4, hm4, rfl⟩
    refine q_iald (k := 1) (j := 0) (v := nI ((k_la ln k).2)) C dX7_tellsPlace_29 30 rfl rfl rfl hcI (k + 54) rfl (by omega) (by decide) ((hm4.2.2.2.1 k (by omega)).2) ?_
    have hla29_2 : (k_la ln k).2 < 12 := (k_la_lt hlok4 (by omega)).2
    refine q_goto C dX7_tellsPlace_30 59 (by decide) ?_
    exact q_iret C B dX7_tellsPlace_59 rfl rfl (fun t0 ht0 => ⟨by first | rfl | (rw [show k_tp bx ln sc k 2 = q_b (decide (¬ (k_la ln k).1 = (k_la ln k).2)) from rfl, decide_eq_true (by simpa using h43)]; rfl) | (rw [show k_tp bx ln sc k 2 = q_b (decide (¬ (k_la ln k).1 = (k_la ln k).2)) from rfl, decide_eq_false (by simpa using h43)]; rfl), rfl⟩)
  · refine q_iload_n C dX7_tellsPlace_0 1 2 rfl rfl ?_
    refine q_if_ne C dX7_tellsPlace_1 4 16 rfl (by decide) (q_eq0 (by omega)) (fun h1 => ?_) (fun h1 => False.elim (by first | omega | simp_all))
    refine q_iload_n C dX7_tellsPlace_16 17 2 rfl rfl ?_
    refine q_iconst (v := nI 1) C dX7_tellsPlace_17 18 rfl (by decide) ?_
    refine q_icmp_ne C dX7_tellsPlace_18 21 33 rfl (by decide) (nI_eq (by omega) (by omega)) (fun h18 => ?_) (fun h18 => False.elim (by first | omega | simp_all))
    refine q_iload_n C dX7_tellsPlace_33 34 2 rfl rfl ?_
    refine q_iconst (v := nI 2) C dX7_tellsPlace_34 35 rfl (by decide) ?_
    refine q_icmp_ne C dX7_tellsPlace_35 38 54 rfl (by decide) (nI_eq (by omega) (by omega)) (fun h35 => False.elim (by first | omega | simp_all)) (fun h35 => ?_)
    refine q_aload_n C dX7_tellsPlace_38 39 0 rfl rfl ?_
    refine q_iload_n C dX7_tellsPlace_39 40 1 rfl rfl ?_
    refine q_callV (k := 0) (ci := 6) (n := 1) (rest := []) (Rr := []) C rfl (k_isP_recv hP) rfl (c_X7_isError l hZ hI h0 aS aZ aV aN aU aD fd hh wP hP bx at0 ln sc wQ hQ k (by omega)) gX7_tellsPlace_X7_isError rfl rfl rfl (by decide +kernel) B.1 ⟨Nat.le_of_ble_eq_true rfl, Nat.le_of_ble_eq_true rfl⟩ rfl rfl (Nat.le_of_ble_eq_true rfl) dX7_tellsPlace_40 ⟨Nat.le_of_ble_eq_true rfl, Nat.le_of_ble_eq_true rfl⟩ [0, 1] [] (by decide : ([0, 1] ++ ([] : List Nat)).Perm (List.range 2)) rfl rfl 43 rfl (fun v0 R0 t0 ht0 hp0 => ?_)
    obtain ⟨rfl, rfl⟩ := hp0
    refine q_eqs (st' := [.int (q_b (decide (¬ (k_la ln k).1 = (k_la ln k).2)))]) rfl ?_
    refine q_eqR (Rs' := [wP, wQ]) rfl ?_
    refine q_if_eq (P := ¬ (¬ (k_la ln k).1 = (k_la ln k).2)) C dX7_tellsPlace_43 46 50 rfl (by decide) q_bd0 (fun h43 => ?_) (fun h43 => ?_)
    · refine q_iconst (v := nI 0) C dX7_tellsPlace_50 51 rfl (by decide) ?_
      refine q_goto C dX7_tellsPlace_51 59 (by decide) ?_
      exact q_iret C B dX7_tellsPlace_59 rfl rfl (fun t0 ht0 => ⟨by first | rfl | (rw [show k_tp bx ln sc k 2 = q_b (decide (¬ (k_la ln k).1 = (k_la ln k).2)) from rfl, decide_eq_true (by simpa using h43)]; rfl) | (rw [show k_tp bx ln sc k 2 = q_b (decide (¬ (k_la ln k).1 = (k_la ln k).2)) from rfl, decide_eq_false (by simpa using h43)]; rfl), rfl⟩)
    · refine q_iconst (v := nI 1) C dX7_tellsPlace_46 47 rfl (by decide) ?_
      refine q_goto C dX7_tellsPlace_47 59 (by decide) ?_
      exact q_iret C B dX7_tellsPlace_59 rfl rfl (fun t0 ht0 => ⟨by first | rfl | (rw [show k_tp bx ln sc k 2 = q_b (decide (¬ (k_la ln k).1 = (k_la ln k).2)) from rfl, decide_eq_true (by simpa using h43)]; rfl) | (rw [show k_tp bx ln sc k 2 = q_b (decide (¬ (k_la ln k).1 = (k_la ln k).2)) from rfl, decide_eq_false (by simpa using h43)]; rfl), rfl⟩)
  · refine q_iload_n C dX7_tellsPlace_0 1 2 rfl rfl ?_
    refine q_if_ne C dX7_tellsPlace_1 4 16 rfl (by decide) (q_eq0 (by omega)) (fun h1 => ?_) (fun h1 => False.elim (by first | omega | simp_all))
    refine q_iload_n C dX7_tellsPlace_16 17 2 rfl rfl ?_
    refine q_iconst (v := nI 1) C dX7_tellsPlace_17 18 rfl (by decide) ?_
    refine q_icmp_ne C dX7_tellsPlace_18 21 33 rfl (by decide) (nI_eq (by omega) (by omega)) (fun h18 => ?_) (fun h18 => False.elim (by first | omega | simp_all))
    refine q_iload_n C dX7_tellsPlace_33 34 2 rfl rfl ?_
    refine q_iconst (v := nI 2) C dX7_tellsPlace_34 35 rfl (by decide) ?_
    refine q_icmp_ne C dX7_tellsPlace_35 38 54 rfl (by decide) (nI_eq (by omega) (by omega)) (fun h35 => ?_) (fun h35 => False.elim (by first | omega | simp_all))
    refine q_aload_n C dX7_tellsPlace_54 55 0 rfl rfl ?_
    refine q_iload_n C dX7_tellsPlace_55 56 1 rfl rfl ?_
    refine q_callV (k := 0) (ci := 6) (n := 1) (rest := []) (Rr := []) C rfl (k_isP_recv hP) rfl (c_X7_refusesFix l hZ hI h0 aS aZ aV aN aU aD fd hh wP hP bx at0 ln sc wQ hQ k (by omega)) gX7_tellsPlace_X7_refusesFix rfl rfl rfl (by decide +kernel) B.1 ⟨Nat.le_of_ble_eq_true rfl, Nat.le_of_ble_eq_true rfl⟩ rfl rfl (Nat.le_of_ble_eq_true rfl) dX7_tellsPlace_56 ⟨Nat.le_of_ble_eq_true rfl, Nat.le_of_ble_eq_true rfl⟩ [0, 1] [] (by decide : ([0, 1] ++ ([] : List Nat)).Perm (List.range 2)) rfl rfl 59 rfl (fun v0 R0 t0 ht0 hp0 => ?_)
    obtain ⟨rfl, rfl⟩ := hp0
    refine q_eqs (st' := [.int (nI (k_wc bx ln sc k))]) rfl ?_
    refine q_eqR (Rs' := [wP, wQ]) rfl ?_
    have hw56 : k_wc bx ln sc k ≤ 5 := k_wc_le _ _ _ _
    exact q_iret C B dX7_tellsPlace_59 rfl rfl (fun t0 ht0 => ⟨by first | rfl | (rw [show k_tp bx ln sc k 2 = q_b (decide (¬ (k_la ln k).1 = (k_la ln k).2)) from rfl, decide_eq_true (by simpa using h43)]; rfl) | (rw [show k_tp bx ln sc k 2 = q_b (decide (¬ (k_la ln k).1 = (k_la ln k).2)) from rfl, decide_eq_false (by simpa using h43)]; rfl), rfl⟩)

set_option maxHeartbeats 400000 in
set_option maxRecDepth 100000 in
theorem c_X7_line_a (l : Launch) {D : va_G} {tys : List (ClassId × FieldType)} {Z : (Nat → Prop) → State → Heap → Prop} (hZ : q_St Z) {cI : ClassId} (hI : tys[0]? = some (cI, .int)) (h0 : Nat) (aS : Nat) (aZ : Nat) (aV : Nat) (aN : Nat) (aU : Nat) (aD : Nat) (fd : Nat → Int32) (hh : Int64) (wP : va_W) (hP : k_isP cI h0 aS aZ aV aN aU aD fd hh wP) (bx : k_Bx) (at0 : Nat) (ln : List (Nat × Nat)) (sc : Nat → Int32) (wQ : va_W) (hQ : k_isQ cI aS bx at0 ln sc wQ) (v : Int32) (v2 : Int32) (hbad : k_has ln v = false) : q_Ct l D tys Z yX7_line wsX7_line ({ frames := 5, cells := 0, slots := 0, locals := 162 } : Room) 0 0 [.ref h0, .int v, .int v2] [wP, wQ] (fun v0 R0 _ => v0 = some (.int (nI 0)) ∧ ∃ wP', k_isP cI h0 aS aZ aV aN aU aD (upd (upd fd 0 (nI 0)) 0 (nI 1)) hh wP' ∧ R0 = [wP', wQ]) := by
  have hcI := hI
  refine q_ct (cc := cX7_line) (maxL := 3) (ret := (some .int)) (own := RX7) (by decide) rfl hZ (Nat.le_of_ble_eq_true rfl) rfl ?_
  intro p9 e9 R s9 m9 args below meth c9 A Q C B
  have hts := C.2.2.2.2.1
  have hinX7 : ∀ w ∈ u_ws RX7 TX7 16, w ∈ wsX7_line := by decide +kernel
  have f28 := hts (.fieldLink RX7 28 "SortCasesModel" "thrown" "I") (by decide +kernel)
  refine q_eqL (L' := [(0, .ref h0), (1, .int v), (2, .int v2)]) rfl ?_
  refine q_aload_n C dX7_line_0 1 0 rfl rfl ?_
  refine q_iconst (v := nI 0) C dX7_line_1 2 rfl (by decide) ?_
  obtain rfl := hP
  have hPo1 : k_isP cI h0 aS aZ aV aN aU aD fd hh [(h0, .inr (6, [.int (fd 0), .ref aS, .ref aZ, .ref aV, .int (fd 4), .ref aN, .int (fd 6), .ref aU, .int (fd 8), .int (fd 9), .int (fd 10), .ref aD, .int (fd 12), .int (fd 13), .int (fd 14), .long hh]))] := rfl
  refine q_put (k := 0) (j := 0) (f := 0) C hinX7 tyX7 tyX7_ok nmX7 f28 (fun _ h => h) (by decide) rfl rfl (tyX7_ok 0 (by decide)) rfl rfl dX7_line_2 5 rfl rfl rfl (Nat.le_of_ble_eq_true rfl) [[(h0, .inr (6, [.int (nI 0), .ref aS, .ref aZ, .ref aV, .int (fd 4), .ref aN, .int (fd 6), .ref aU, .int (fd 8), .int (fd 9), .int (fd 10), .ref aD, .int (fd 12), .int (fd 13), .int (fd 14), .long hh]))], wQ] rfl ?_
  have hPp2 : k_isP cI h0 aS aZ aV aN aU aD (upd fd 0 (nI 0)) hh [(h0, .inr (6, [.int (nI 0), .ref aS, .ref aZ, .ref aV, .int (fd 4), .ref aN, .int (fd 6), .ref aU, .int (fd 8), .int (fd 9), .int (fd 10), .ref aD, .int (fd 12), .int (fd 13), .int (fd 14), .long hh]))] := rfl
  refine q_aload_n C dX7_line_5 6 0 rfl rfl ?_
  refine q_iload_n C dX7_line_6 7 1 rfl rfl ?_
  refine q_callV (k := 0) (ci := 6) (n := 1) (rest := []) (Rr := []) C rfl (k_isP_recv hPp2) rfl (c_X7_isPlace l hZ hI h0 aS aZ aV aN aU aD (upd fd 0 (nI 0)) hh ([(h0, .inr (6, [.int (nI 0), .ref aS, .ref aZ, .ref aV, .int (fd 4), .ref aN, .int (fd 6), .ref aU, .int (fd 8), .int (fd 9), .int (fd 10), .ref aD, .int (fd 12), .int (fd 13), .int (fd 14), .long hh]))]) hPp2 bx at0 ln sc wQ hQ v) gX7_line_X7_isPlace rfl rfl rfl (by decide +kernel) B.1 ⟨Nat.le_of_ble_eq_true rfl, Nat.le_of_ble_eq_true rfl⟩ rfl rfl (Nat.le_of_ble_eq_true rfl) dX7_line_7 ⟨Nat.le_of_ble_eq_true rfl, Nat.le_of_ble_eq_true rfl⟩ [0, 1] [] (by decide : ([0, 1] ++ ([] : List Nat)).Perm (List.range 2)) rfl rfl 10 rfl (fun v0 R0 t0 ht0 hp0 => ?_)
  obtain ⟨rfl, rfl⟩ := hp0
  refine q_eqs (st' := [.int (q_b (k_has ln v))]) rfl ?_
  refine q_eqR (Rs' := [[(h0, .inr (6, [.int (nI 0), .ref aS, .ref aZ, .ref aV, .int (fd 4), .ref aN, .int (fd 6), .ref aU, .int (fd 8), .int (fd 9), .int (fd 10), .ref aD, .int (fd 12), .int (fd 13), .int (fd 14), .long hh]))], wQ]) rfl ?_
  refine q_if_ne (P := k_has ln v = false) C dX7_line_10 13 19 rfl (by decide) q_b0 (fun h10 => False.elim (by first | omega | simp_all)) (fun h10 => ?_)
  refine q_aload_n C dX7_line_13 14 0 rfl rfl ?_
  refine q_iconst (v := nI 1) C dX7_line_14 15 rfl (by decide) ?_
  refine q_callV (k := 0) (ci := 6) (n := 1) (rest := []) (Rr := [wQ]) C rfl (k_isP_recv hPp2) rfl (c_X7_fails l hZ hI h0 aS aZ aV aN aU aD (upd fd 0 (nI 0)) hh ([(h0, .inr (6, [.int (nI 0), .ref aS, .ref aZ, .ref aV, .int (fd 4), .ref aN, .int (fd 6), .ref aU, .int (fd 8), .int (fd 9), .int (fd 10), .ref aD, .int (fd 12), .int (fd 13), .int (fd 14), .long hh]))]) hPp2 (nI 1)) gX7_line_X7_fails rfl rfl rfl (by decide +kernel) B.1 ⟨Nat.le_of_ble_eq_true rfl, Nat.le_of_ble_eq_true rfl⟩ rfl rfl (Nat.le_of_ble_eq_true rfl) dX7_line_15 ⟨Nat.le_of_ble_eq_true rfl, Nat.le_of_ble_eq_true rfl⟩ [0] [1] (by decide : ([0] ++ ([1] : List Nat)).Perm (List.range 2)) rfl rfl 18 rfl (fun v0 R0 t0 ht0 hp0 => ?_)
  obtain ⟨rfl, w_15, hw_15, rfl⟩ := hp0
  refine q_eqs (st' := [.int (nI 0)]) rfl ?_
  refine q_eqR (Rs' := [w_15, wQ]) rfl ?_
  exact q_iret C B dX7_line_18 rfl rfl (fun t0 ht0 => ⟨rfl, _, hw_15, by first | rfl | simp⟩)

set_option maxHeartbeats 400000 in
set_option maxRecDepth 100000 in
theorem c_X7_line_b (l : Launch) {D : va_G} {tys : List (ClassId × FieldType)} {Z : (Nat → Prop) → State → Heap → Prop} (hZ : q_St Z) {cI : ClassId} (hI : tys[0]? = some (cI, .int)) (h0 : Nat) (aS : Nat) (aZ : Nat) (aV : Nat) (aN : Nat) (aU : Nat) (aD : Nat) (fd : Nat → Int32) (hh : Int64) (wP : va_W) (hP : k_isP cI h0 aS aZ aV aN aU aD fd hh wP) (bx : k_Bx) (at0 : Nat) (ln : List (Nat × Nat)) (sc : Nat → Int32) (wQ : va_W) (hQ : k_isQ cI aS bx at0 ln sc wQ) (k : Nat) (v : Int32) (hk : k < ln.length) (hkh : k_has ln (nI k) = true) (hbad : ¬ (nI 0 ≤ v ∧ v ≤ nI 3)) : q_Ct l D tys Z yX7_line wsX7_line ({ frames := 5, cells := 0, slots := 0, locals := 162 } : Room) 0 0 [.ref h0, .int (nI k), .int v] [wP, wQ] (fun v0 R0 _ => v0 = some (.int (nI 0)) ∧ ∃ wP', k_isP cI h0 aS aZ aV aN aU aD (upd (upd fd 0 (nI 0)) 0 (nI 2)) hh wP' ∧ R0 = [wP', wQ]) := by
  have hcI := hI
  refine q_ct (cc := cX7_line) (maxL := 3) (ret := (some .int)) (own := RX7) (by decide) rfl hZ (Nat.le_of_ble_eq_true rfl) rfl ?_
  intro p9 e9 R s9 m9 args below meth c9 A Q C B
  have hts := C.2.2.2.2.1
  have hinX7 : ∀ w ∈ u_ws RX7 TX7 16, w ∈ wsX7_line := by decide +kernel
  have f28 := hts (.fieldLink RX7 28 "SortCasesModel" "thrown" "I") (by decide +kernel)
  refine q_eqL (L' := [(0, .ref h0), (1, .int (nI k)), (2, .int v)]) rfl ?_
  refine q_aload_n C dX7_line_0 1 0 rfl rfl ?_
  refine q_iconst (v := nI 0) C dX7_line_1 2 rfl (by decide) ?_
  obtain rfl := hP
  have hPo1 : k_isP cI h0 aS aZ aV aN aU aD fd hh [(h0, .inr (6, [.int (fd 0), .ref aS, .ref aZ, .ref aV, .int (fd 4), .ref aN, .int (fd 6), .ref aU, .int (fd 8), .int (fd 9), .int (fd 10), .ref aD, .int (fd 12), .int (fd 13), .int (fd 14), .long hh]))] := rfl
  refine q_put (k := 0) (j := 0) (f := 0) C hinX7 tyX7 tyX7_ok nmX7 f28 (fun _ h => h) (by decide) rfl rfl (tyX7_ok 0 (by decide)) rfl rfl dX7_line_2 5 rfl rfl rfl (Nat.le_of_ble_eq_true rfl) [[(h0, .inr (6, [.int (nI 0), .ref aS, .ref aZ, .ref aV, .int (fd 4), .ref aN, .int (fd 6), .ref aU, .int (fd 8), .int (fd 9), .int (fd 10), .ref aD, .int (fd 12), .int (fd 13), .int (fd 14), .long hh]))], wQ] rfl ?_
  have hPp2 : k_isP cI h0 aS aZ aV aN aU aD (upd fd 0 (nI 0)) hh [(h0, .inr (6, [.int (nI 0), .ref aS, .ref aZ, .ref aV, .int (fd 4), .ref aN, .int (fd 6), .ref aU, .int (fd 8), .int (fd 9), .int (fd 10), .ref aD, .int (fd 12), .int (fd 13), .int (fd 14), .long hh]))] := rfl
  refine q_aload_n C dX7_line_5 6 0 rfl rfl ?_
  refine q_iload_n C dX7_line_6 7 1 rfl rfl ?_
  refine q_callV (k := 0) (ci := 6) (n := 1) (rest := []) (Rr := []) C rfl (k_isP_recv hPp2) rfl (c_X7_isPlace l hZ hI h0 aS aZ aV aN aU aD (upd fd 0 (nI 0)) hh ([(h0, .inr (6, [.int (nI 0), .ref aS, .ref aZ, .ref aV, .int (fd 4), .ref aN, .int (fd 6), .ref aU, .int (fd 8), .int (fd 9), .int (fd 10), .ref aD, .int (fd 12), .int (fd 13), .int (fd 14), .long hh]))]) hPp2 bx at0 ln sc wQ hQ (nI k)) gX7_line_X7_isPlace rfl rfl rfl (by decide +kernel) B.1 ⟨Nat.le_of_ble_eq_true rfl, Nat.le_of_ble_eq_true rfl⟩ rfl rfl (Nat.le_of_ble_eq_true rfl) dX7_line_7 ⟨Nat.le_of_ble_eq_true rfl, Nat.le_of_ble_eq_true rfl⟩ [0, 1] [] (by decide : ([0, 1] ++ ([] : List Nat)).Perm (List.range 2)) rfl rfl 10 rfl (fun v0 R0 t0 ht0 hp0 => ?_)
  obtain ⟨rfl, rfl⟩ := hp0
  refine q_eqs (st' := [.int (q_b (k_has ln (nI k)))]) rfl ?_
  refine q_eqR (Rs' := [[(h0, .inr (6, [.int (nI 0), .ref aS, .ref aZ, .ref aV, .int (fd 4), .ref aN, .int (fd 6), .ref aU, .int (fd 8), .int (fd 9), .int (fd 10), .ref aD, .int (fd 12), .int (fd 13), .int (fd 14), .long hh]))], wQ]) rfl ?_
  refine q_if_ne (P := k_has ln (nI k) = false) C dX7_line_10 13 19 rfl (by decide) q_b0 (fun h10 => ?_) (fun h10 => False.elim (by first | omega | simp_all))
  refine q_iload_n C dX7_line_19 20 2 rfl rfl ?_
  refine q_iconst (v := nI 0) C dX7_line_20 21 rfl (by decide) ?_
  refine q_iconst (v := nI 3) C dX7_line_21 22 rfl (by decide) ?_
  refine q_callS (n := 3) (rest := []) (Rr := [[(h0, .inr (6, [.int (nI 0), .ref aS, .ref aZ, .ref aV, .int (fd 4), .ref aN, .int (fd 6), .ref aU, .int (fd 8), .int (fd 9), .int (fd 10), .ref aD, .int (fd 12), .int (fd 13), .int (fd 14), .long hh]))], wQ]) C (c_X7_in_f l hZ hI v (nI 0) (nI 3) hbad) gX7_line_X7_in rfl rfl rfl (by decide +kernel) B.1 ⟨Nat.le_of_ble_eq_true rfl, Nat.le_of_ble_eq_true rfl⟩ rfl rfl (Nat.le_of_ble_eq_true rfl) dX7_line_22 ⟨Nat.le_of_ble_eq_true rfl, Nat.le_of_ble_eq_true rfl⟩ [] [0, 1] (by decide : ([] ++ ([0, 1] : List Nat)).Perm (List.range 2)) rfl rfl 25 rfl (fun v0 R0 t0 ht0 hp0 => ?_)
  obtain ⟨rfl, rfl⟩ := hp0
  refine q_eqs (st' := [.int (nI 0)]) rfl ?_
  refine q_eqR (Rs' := [[(h0, .inr (6, [.int (nI 0), .ref aS, .ref aZ, .ref aV, .int (fd 4), .ref aN, .int (fd 6), .ref aU, .int (fd 8), .int (fd 9), .int (fd 10), .ref aD, .int (fd 12), .int (fd 13), .int (fd 14), .long hh]))], wQ]) rfl ?_
  refine q_if_eq C dX7_line_25 28 37 rfl (by decide) (q_eq0 (by omega)) (fun h25 => ?_) (fun h25 => False.elim (by first | omega | simp_all))
  refine q_aload_n C dX7_line_37 38 0 rfl rfl ?_
  refine q_iconst (v := nI 2) C dX7_line_38 39 rfl (by decide) ?_
  refine q_callV (k := 0) (ci := 6) (n := 1) (rest := []) (Rr := [wQ]) C rfl (k_isP_recv hPp2) rfl (c_X7_fails l hZ hI h0 aS aZ aV aN aU aD (upd fd 0 (nI 0)) hh ([(h0, .inr (6, [.int (nI 0), .ref aS, .ref aZ, .ref aV, .int (fd 4), .ref aN, .int (fd 6), .ref aU, .int (fd 8), .int (fd 9), .int (fd 10), .ref aD, .int (fd 12), .int (fd 13), .int (fd 14), .long hh]))]) hPp2 (nI 2)) gX7_line_X7_fails rfl rfl rfl (by decide +kernel) B.1 ⟨Nat.le_of_ble_eq_true rfl, Nat.le_of_ble_eq_true rfl⟩ rfl rfl (Nat.le_of_ble_eq_true rfl) dX7_line_39 ⟨Nat.le_of_ble_eq_true rfl, Nat.le_of_ble_eq_true rfl⟩ [0] [1] (by decide : ([0] ++ ([1] : List Nat)).Perm (List.range 2)) rfl rfl 42 rfl (fun v0 R0 t0 ht0 hp0 => ?_)
  obtain ⟨rfl, w_39, hw_39, rfl⟩ := hp0
  refine q_eqs (st' := [.int (nI 0)]) rfl ?_
  refine q_eqR (Rs' := [w_39, wQ]) rfl ?_
  exact q_iret C B dX7_line_42 rfl rfl (fun t0 ht0 => ⟨rfl, _, hw_39, by first | rfl | simp⟩)

set_option maxHeartbeats 400000 in
set_option maxRecDepth 100000 in
theorem c_X7_line_c (l : Launch) {D : va_G} {tys : List (ClassId × FieldType)} {Z : (Nat → Prop) → State → Heap → Prop} (hZ : q_St Z) {cI : ClassId} (hI : tys[0]? = some (cI, .int)) (h0 : Nat) (aS : Nat) (aZ : Nat) (aV : Nat) (aN : Nat) (aU : Nat) (aD : Nat) (fd : Nat → Int32) (hh : Int64) (wP : va_W) (hP : k_isP cI h0 aS aZ aV aN aU aD fd hh wP) (bx : k_Bx) (at0 : Nat) (ln : List (Nat × Nat)) (sc : Nat → Int32) (wQ : va_W) (hQ : k_isQ cI aS bx at0 ln sc wQ) (k : Nat) (i : Nat) (hk : k < ln.length) (hkh : k_has ln (nI k) = true) (hi : i < 4) : q_Ct l D tys Z yX7_line wsX7_line ({ frames := 5, cells := 0, slots := 0, locals := 162 } : Room) 0 0 [.ref h0, .int (nI k), .int (nI i)] [wP, wQ] (fun v0 R0 _ => v0 = some (.int (k_tp bx ln sc k i)) ∧ ∃ wP', k_isP cI h0 aS aZ aV aN aU aD (upd fd 0 (nI 0)) hh wP' ∧ R0 = [wP', wQ]) := by
  have hcI := hI
  refine q_ct (cc := cX7_line) (maxL := 3) (ret := (some .int)) (own := RX7) (by decide) rfl hZ (Nat.le_of_ble_eq_true rfl) rfl ?_
  intro p9 e9 R s9 m9 args below meth c9 A Q C B
  have hts := C.2.2.2.2.1
  have hinX7 : ∀ w ∈ u_ws RX7 TX7 16, w ∈ wsX7_line := by decide +kernel
  have f28 := hts (.fieldLink RX7 28 "SortCasesModel" "thrown" "I") (by decide +kernel)
  refine q_eqL (L' := [(0, .ref h0), (1, .int (nI k)), (2, .int (nI i))]) rfl ?_
  refine q_aload_n C dX7_line_0 1 0 rfl rfl ?_
  refine q_iconst (v := nI 0) C dX7_line_1 2 rfl (by decide) ?_
  obtain rfl := hP
  have hPo1 : k_isP cI h0 aS aZ aV aN aU aD fd hh [(h0, .inr (6, [.int (fd 0), .ref aS, .ref aZ, .ref aV, .int (fd 4), .ref aN, .int (fd 6), .ref aU, .int (fd 8), .int (fd 9), .int (fd 10), .ref aD, .int (fd 12), .int (fd 13), .int (fd 14), .long hh]))] := rfl
  refine q_put (k := 0) (j := 0) (f := 0) C hinX7 tyX7 tyX7_ok nmX7 f28 (fun _ h => h) (by decide) rfl rfl (tyX7_ok 0 (by decide)) rfl rfl dX7_line_2 5 rfl rfl rfl (Nat.le_of_ble_eq_true rfl) [[(h0, .inr (6, [.int (nI 0), .ref aS, .ref aZ, .ref aV, .int (fd 4), .ref aN, .int (fd 6), .ref aU, .int (fd 8), .int (fd 9), .int (fd 10), .ref aD, .int (fd 12), .int (fd 13), .int (fd 14), .long hh]))], wQ] rfl ?_
  have hPp2 : k_isP cI h0 aS aZ aV aN aU aD (upd fd 0 (nI 0)) hh [(h0, .inr (6, [.int (nI 0), .ref aS, .ref aZ, .ref aV, .int (fd 4), .ref aN, .int (fd 6), .ref aU, .int (fd 8), .int (fd 9), .int (fd 10), .ref aD, .int (fd 12), .int (fd 13), .int (fd 14), .long hh]))] := rfl
  refine q_aload_n C dX7_line_5 6 0 rfl rfl ?_
  refine q_iload_n C dX7_line_6 7 1 rfl rfl ?_
  refine q_callV (k := 0) (ci := 6) (n := 1) (rest := []) (Rr := []) C rfl (k_isP_recv hPp2) rfl (c_X7_isPlace l hZ hI h0 aS aZ aV aN aU aD (upd fd 0 (nI 0)) hh ([(h0, .inr (6, [.int (nI 0), .ref aS, .ref aZ, .ref aV, .int (fd 4), .ref aN, .int (fd 6), .ref aU, .int (fd 8), .int (fd 9), .int (fd 10), .ref aD, .int (fd 12), .int (fd 13), .int (fd 14), .long hh]))]) hPp2 bx at0 ln sc wQ hQ (nI k)) gX7_line_X7_isPlace rfl rfl rfl (by decide +kernel) B.1 ⟨Nat.le_of_ble_eq_true rfl, Nat.le_of_ble_eq_true rfl⟩ rfl rfl (Nat.le_of_ble_eq_true rfl) dX7_line_7 ⟨Nat.le_of_ble_eq_true rfl, Nat.le_of_ble_eq_true rfl⟩ [0, 1] [] (by decide : ([0, 1] ++ ([] : List Nat)).Perm (List.range 2)) rfl rfl 10 rfl (fun v0 R0 t0 ht0 hp0 => ?_)
  obtain ⟨rfl, rfl⟩ := hp0
  refine q_eqs (st' := [.int (q_b (k_has ln (nI k)))]) rfl ?_
  refine q_eqR (Rs' := [[(h0, .inr (6, [.int (nI 0), .ref aS, .ref aZ, .ref aV, .int (fd 4), .ref aN, .int (fd 6), .ref aU, .int (fd 8), .int (fd 9), .int (fd 10), .ref aD, .int (fd 12), .int (fd 13), .int (fd 14), .long hh]))], wQ]) rfl ?_
  refine q_if_ne (P := k_has ln (nI k) = false) C dX7_line_10 13 19 rfl (by decide) q_b0 (fun h10 => ?_) (fun h10 => False.elim (by first | omega | simp_all))
  refine q_iload_n C dX7_line_19 20 2 rfl rfl ?_
  refine q_iconst (v := nI 0) C dX7_line_20 21 rfl (by decide) ?_
  refine q_iconst (v := nI 3) C dX7_line_21 22 rfl (by decide) ?_
  refine q_callS (n := 3) (rest := []) (Rr := [[(h0, .inr (6, [.int (nI 0), .ref aS, .ref aZ, .ref aV, .int (fd 4), .ref aN, .int (fd 6), .ref aU, .int (fd 8), .int (fd 9), .int (fd 10), .ref aD, .int (fd 12), .int (fd 13), .int (fd 14), .long hh]))], wQ]) C (c_X7_in_t l hZ hI (nI i) (nI 0) (nI 3) (k_in2 (by omega) (by omega) (by omega))) gX7_line_X7_in rfl rfl rfl (by decide +kernel) B.1 ⟨Nat.le_of_ble_eq_true rfl, Nat.le_of_ble_eq_true rfl⟩ rfl rfl (Nat.le_of_ble_eq_true rfl) dX7_line_22 ⟨Nat.le_of_ble_eq_true rfl, Nat.le_of_ble_eq_true rfl⟩ [] [0, 1] (by decide : ([] ++ ([0, 1] : List Nat)).Perm (List.range 2)) rfl rfl 25 rfl (fun v0 R0 t0 ht0 hp0 => ?_)
  obtain ⟨rfl, rfl⟩ := hp0
  refine q_eqs (st' := [.int (nI 1)]) rfl ?_
  refine q_eqR (Rs' := [[(h0, .inr (6, [.int (nI 0), .ref aS, .ref aZ, .ref aV, .int (fd 4), .ref aN, .int (fd 6), .ref aU, .int (fd 8), .int (fd 9), .int (fd 10), .ref aD, .int (fd 12), .int (fd 13), .int (fd 14), .long hh]))], wQ]) rfl ?_
  refine q_if_eq C dX7_line_25 28 37 rfl (by decide) (q_eq0 (by omega)) (fun h25 => False.elim (by first | omega | simp_all)) (fun h25 => ?_)
  refine q_aload_n C dX7_line_28 29 0 rfl rfl ?_
  refine q_iload_n C dX7_line_29 30 1 rfl rfl ?_
  refine q_iload_n C dX7_line_30 31 2 rfl rfl ?_
  refine q_callV (k := 0) (ci := 6) (n := 2) (rest := []) (Rr := []) C rfl (k_isP_recv hPp2) rfl (c_X7_tellsPlace l hZ hI h0 aS aZ aV aN aU aD (upd fd 0 (nI 0)) hh ([(h0, .inr (6, [.int (nI 0), .ref aS, .ref aZ, .ref aV, .int (fd 4), .ref aN, .int (fd 6), .ref aU, .int (fd 8), .int (fd 9), .int (fd 10), .ref aD, .int (fd 12), .int (fd 13), .int (fd 14), .long hh]))]) hPp2 bx at0 ln sc wQ hQ k i (by omega) (by omega)) gX7_line_X7_tellsPlace rfl rfl rfl (by decide +kernel) B.1 ⟨Nat.le_of_ble_eq_true rfl, Nat.le_of_ble_eq_true rfl⟩ rfl rfl (Nat.le_of_ble_eq_true rfl) dX7_line_31 ⟨Nat.le_of_ble_eq_true rfl, Nat.le_of_ble_eq_true rfl⟩ [0, 1] [] (by decide : ([0, 1] ++ ([] : List Nat)).Perm (List.range 2)) rfl rfl 34 rfl (fun v0 R0 t0 ht0 hp0 => ?_)
  obtain ⟨rfl, rfl⟩ := hp0
  refine q_eqs (st' := [.int (k_tp bx ln sc k i)]) rfl ?_
  refine q_eqR (Rs' := [[(h0, .inr (6, [.int (nI 0), .ref aS, .ref aZ, .ref aV, .int (fd 4), .ref aN, .int (fd 6), .ref aU, .int (fd 8), .int (fd 9), .int (fd 10), .ref aD, .int (fd 12), .int (fd 13), .int (fd 14), .long hh]))], wQ]) rfl ?_
  refine q_goto C dX7_line_34 42 (by decide) ?_
  exact q_iret C B dX7_line_42 rfl rfl (fun t0 ht0 => ⟨rfl, _, hPp2, by first | rfl | simp⟩)

set_option maxHeartbeats 400000 in
set_option maxRecDepth 100000 in
theorem c_X7_tellsCount (l : Launch) {D : va_G} {tys : List (ClassId × FieldType)} {Z : (Nat → Prop) → State → Heap → Prop} (hZ : q_St Z) {cI : ClassId} (hI : tys[0]? = some (cI, .int)) (h0 : Nat) (aS : Nat) (aZ : Nat) (aV : Nat) (aN : Nat) (aU : Nat) (aD : Nat) (fd : Nat → Int32) (hh : Int64) (wP : va_W) (hP : k_isP cI h0 aS aZ aV aN aU aD fd hh wP) (bx : k_Bx) (at0 : Nat) (ln : List (Nat × Nat)) (sc : Nat → Int32) (wQ : va_W) (hQ : k_isQ cI aS bx at0 ln sc wQ) (i : Nat) (m : Nat) (hi : i < 18) (hsv : m ≤ 6) (h4 : fd 4 = nI m) : q_Ct l D tys Z yX7_tellsCount wsX7_tellsCount ({ frames := 4, cells := 0, slots := 0, locals := 132 } : Room) 0 0 [.ref h0, .int (nI i)] [wP, wQ] (fun v0 R0 _ => v0 = some (.int (k_tc bx at0 ln sc m i)) ∧ R0 = [wP, wQ]) := by
  have hcI := hI
  refine q_ct (cc := cX7_tellsCount) (maxL := 2) (ret := (some .int)) (own := RX7) (by decide) rfl hZ (Nat.le_of_ble_eq_true rfl) rfl ?_
  intro p9 e9 R s9 m9 args below meth c9 A Q C B
  have hts := C.2.2.2.2.1
  have hinX7 : ∀ w ∈ u_ws RX7 TX7 16, w ∈ wsX7_tellsCount := by decide +kernel
  have f7 := hts (.fieldLink RX7 7 "SortCasesModel" "s" "[I") (by decide +kernel)
  have f51 := hts (.fieldLink RX7 51 "SortCasesModel" "savedMany" "I") (by decide +kernel)
  refine q_eqL (L' := [(0, .ref h0), (1, .int (nI i))]) rfl ?_
  have hty := k_ty_le hQ.2.1
  have hwt := k_wr_ty bx
  refine q_iload_n C dX7_tellsCount_0 1 1 rfl rfl ?_
  rcases (by omega : i = 0 ∨ i = 1 ∨ i = 2 ∨ i = 3 ∨ i = 4 ∨ i = 5 ∨ i = 6 ∨ i = 7 ∨ i = 8 ∨ i = 9 ∨ i = 10 ∨ i = 11 ∨ i = 12 ∨ i = 13 ∨ i = 14 ∨ i = 15 ∨ i = 16 ∨ i = 17) with rfl | rfl | rfl | rfl | rfl | rfl | rfl | rfl | rfl | rfl | rfl | rfl | rfl | rfl | rfl | rfl | rfl | rfl
  · refine q_tableIn C dX7_tellsCount_1 88 (by decide) (by decide) rfl (by decide) ?_
    refine q_aload_n C dX7_tellsCount_88 89 0 rfl rfl ?_
    obtain rfl := hP
    have hPo1 : k_isP cI h0 aS aZ aV aN aU aD fd hh [(h0, .inr (6, [.int (fd 0), .ref aS, .ref aZ, .ref aV, .int (fd 4), .ref aN, .int (fd 6), .ref aU, .int (fd 8), .int (fd 9), .int (fd 10), .ref aD, .int (fd 12), .int (fd 13), .int (fd 14), .long hh]))] := rfl
    refine q_get (k := 0) (j := 0) (f := 1) C hinX7 f7 (fun _ h => h) (by decide) rfl dX7_tellsCount_89 92 rfl rfl rfl rfl ?_
    refine q_bipush (v := nI 12) C dX7_tellsCount_92 94 rfl (by decide) ?_
    obtain ⟨hat2, hok2, hlok2, f2, hm2, rfl⟩ := hQ
    have hll2 := hlok2.1
    have hQo2 : k_isQ cI aS bx at0 ln sc [(aS, .inl (cI, 350, .inl f2))] := ⟨hat2, hok2, hlok2, f2, hm2, rfl⟩
    refine q_iald (k := 1) (j := 0) (v := nI ln.length) C dX7_tellsCount_94 95 rfl rfl rfl hcI 12 rfl (by omega) (by decide) (hm2.2.2.1) ?_
    exact q_iret C B dX7_tellsCount_95 rfl rfl (fun t0 ht0 => ⟨rfl, rfl⟩)
  · refine q_tableIn C dX7_tellsCount_1 96 (by decide) (by decide) rfl (by decide) ?_
    refine q_aload_n C dX7_tellsCount_96 97 0 rfl rfl ?_
    refine q_callV (k := 0) (ci := 6) (n := 0) (rest := []) (Rr := []) C rfl (k_isP_recv hP) rfl (c_X7_width l hZ hI h0 aS aZ aV aN aU aD fd hh wP hP bx at0 ln sc wQ hQ) gX7_tellsCount_X7_width rfl rfl rfl (by decide +kernel) B.1 ⟨Nat.le_of_ble_eq_true rfl, Nat.le_of_ble_eq_true rfl⟩ rfl rfl (Nat.le_of_ble_eq_true rfl) dX7_tellsCount_97 ⟨Nat.le_of_ble_eq_true rfl, Nat.le_of_ble_eq_true rfl⟩ [0, 1] [] (by decide : ([0, 1] ++ ([] : List Nat)).Perm (List.range 2)) rfl rfl 100 rfl (fun v0 R0 t0 ht0 hp0 => ?_)
    obtain ⟨rfl, rfl⟩ := hp0
    refine q_eqs (st' := [.int (nI (k_np ln - 1))]) rfl ?_
    refine q_eqR (Rs' := [wP, wQ]) rfl ?_
    exact q_iret C B dX7_tellsCount_100 rfl rfl (fun t0 ht0 => ⟨rfl, rfl⟩)
  · refine q_tableIn C dX7_tellsCount_1 101 (by decide) (by decide) rfl (by decide) ?_
    refine q_aload_n C dX7_tellsCount_101 102 0 rfl rfl ?_
    refine q_callV (k := 0) (ci := 6) (n := 0) (rest := []) (Rr := []) C rfl (k_isP_recv hP) rfl (c_X7_errors l hZ hI h0 aS aZ aV aN aU aD fd hh wP hP bx at0 ln sc wQ hQ) gX7_tellsCount_X7_errors rfl rfl rfl (by decide +kernel) B.1 ⟨Nat.le_of_ble_eq_true rfl, Nat.le_of_ble_eq_true rfl⟩ rfl rfl (Nat.le_of_ble_eq_true rfl) dX7_tellsCount_102 ⟨Nat.le_of_ble_eq_true rfl, Nat.le_of_ble_eq_true rfl⟩ [0, 1] [] (by decide : ([0, 1] ++ ([] : List Nat)).Perm (List.range 2)) rfl rfl 105 rfl (fun v0 R0 t0 ht0 hp0 => ?_)
    obtain ⟨rfl, rfl⟩ := hp0
    refine q_eqs (st' := [.int (nI (k_er ln))]) rfl ?_
    refine q_eqR (Rs' := [wP, wQ]) rfl ?_
    have hc102 : k_er ln ≤ (ln).length := k_er_le _
    exact q_iret C B dX7_tellsCount_105 rfl rfl (fun t0 ht0 => ⟨rfl, rfl⟩)
  · refine q_tableIn C dX7_tellsCount_1 106 (by decide) (by decide) rfl (by decide) ?_
    refine q_aload_n C dX7_tellsCount_106 107 0 rfl rfl ?_
    refine q_callV (k := 0) (ci := 6) (n := 0) (rest := []) (Rr := []) C rfl (k_isP_recv hP) rfl (c_X7_inBoxes l hZ hI h0 aS aZ aV aN aU aD fd hh wP hP bx at0 ln sc wQ hQ) gX7_tellsCount_X7_inBoxes rfl rfl rfl (by decide +kernel) B.1 ⟨Nat.le_of_ble_eq_true rfl, Nat.le_of_ble_eq_true rfl⟩ rfl rfl (Nat.le_of_ble_eq_true rfl) dX7_tellsCount_107 ⟨Nat.le_of_ble_eq_true rfl, Nat.le_of_ble_eq_true rfl⟩ [0, 1] [] (by decide : ([0, 1] ++ ([] : List Nat)).Perm (List.range 2)) rfl rfl 110 rfl (fun v0 R0 t0 ht0 hp0 => ?_)
    obtain ⟨rfl, rfl⟩ := hp0
    refine q_eqs (st' := [.int (nI (k_ty bx))]) rfl ?_
    refine q_eqR (Rs' := [wP, wQ]) rfl ?_
    exact q_iret C B dX7_tellsCount_110 rfl rfl (fun t0 ht0 => ⟨rfl, rfl⟩)
  · refine q_tableIn C dX7_tellsCount_1 111 (by decide) (by decide) rfl (by decide) ?_
    refine q_aload_n C dX7_tellsCount_111 112 0 rfl rfl ?_
    refine q_callV (k := 0) (ci := 6) (n := 0) (rest := []) (Rr := []) C rfl (k_isP_recv hP) rfl (c_X7_wrong l hZ hI h0 aS aZ aV aN aU aD fd hh wP hP bx at0 ln sc wQ hQ) gX7_tellsCount_X7_wrong rfl rfl rfl (by decide +kernel) B.1 ⟨Nat.le_of_ble_eq_true rfl, Nat.le_of_ble_eq_true rfl⟩ rfl rfl (Nat.le_of_ble_eq_true rfl) dX7_tellsCount_112 ⟨Nat.le_of_ble_eq_true rfl, Nat.le_of_ble_eq_true rfl⟩ [0, 1] [] (by decide : ([0, 1] ++ ([] : List Nat)).Perm (List.range 2)) rfl rfl 115 rfl (fun v0 R0 t0 ht0 hp0 => ?_)
    obtain ⟨rfl, rfl⟩ := hp0
    refine q_eqs (st' := [.int (nI (k_wr bx))]) rfl ?_
    refine q_eqR (Rs' := [wP, wQ]) rfl ?_
    exact q_iret C B dX7_tellsCount_115 rfl rfl (fun t0 ht0 => ⟨rfl, rfl⟩)
  · refine q_tableIn C dX7_tellsCount_1 111 (by decide) (by decide) rfl (by decide) ?_
    refine q_aload_n C dX7_tellsCount_111 112 0 rfl rfl ?_
    refine q_callV (k := 0) (ci := 6) (n := 0) (rest := []) (Rr := []) C rfl (k_isP_recv hP) rfl (c_X7_wrong l hZ hI h0 aS aZ aV aN aU aD fd hh wP hP bx at0 ln sc wQ hQ) gX7_tellsCount_X7_wrong rfl rfl rfl (by decide +kernel) B.1 ⟨Nat.le_of_ble_eq_true rfl, Nat.le_of_ble_eq_true rfl⟩ rfl rfl (Nat.le_of_ble_eq_true rfl) dX7_tellsCount_112 ⟨Nat.le_of_ble_eq_true rfl, Nat.le_of_ble_eq_true rfl⟩ [0, 1] [] (by decide : ([0, 1] ++ ([] : List Nat)).Perm (List.range 2)) rfl rfl 115 rfl (fun v0 R0 t0 ht0 hp0 => ?_)
    obtain ⟨rfl, rfl⟩ := hp0
    refine q_eqs (st' := [.int (nI (k_wr bx))]) rfl ?_
    refine q_eqR (Rs' := [wP, wQ]) rfl ?_
    exact q_iret C B dX7_tellsCount_115 rfl rfl (fun t0 ht0 => ⟨rfl, rfl⟩)
  · refine q_tableIn C dX7_tellsCount_1 116 (by decide) (by decide) rfl (by decide) ?_
    refine q_aload_n C dX7_tellsCount_116 117 0 rfl rfl ?_
    refine q_callV (k := 0) (ci := 6) (n := 0) (rest := []) (Rr := []) C rfl (k_isP_recv hP) rfl (c_X7_wrong l hZ hI h0 aS aZ aV aN aU aD fd hh wP hP bx at0 ln sc wQ hQ) gX7_tellsCount_X7_wrong rfl rfl rfl (by decide +kernel) B.1 ⟨Nat.le_of_ble_eq_true rfl, Nat.le_of_ble_eq_true rfl⟩ rfl rfl (Nat.le_of_ble_eq_true rfl) dX7_tellsCount_117 ⟨Nat.le_of_ble_eq_true rfl, Nat.le_of_ble_eq_true rfl⟩ [0, 1] [] (by decide : ([0, 1] ++ ([] : List Nat)).Perm (List.range 2)) rfl rfl 120 rfl (fun v0 R0 t0 ht0 hp0 => ?_)
    obtain ⟨rfl, rfl⟩ := hp0
    refine q_eqs (st' := [.int (nI (k_wr bx))]) rfl ?_
    refine q_eqR (Rs' := [wP, wQ]) rfl ?_
    refine q_if_ne C dX7_tellsCount_120 123 127 rfl (by decide) (q_eq0 (by omega)) (fun h120 => ?_) (fun h120 => ?_)
    · refine q_iconst (v := nI 0) C dX7_tellsCount_127 128 rfl (by decide) ?_
      exact q_iret C B dX7_tellsCount_128 rfl rfl (fun t0 ht0 => ⟨by first | (rw [show k_tc bx at0 ln sc m 6 = q_b (decide (k_wr bx = 0)) from rfl, decide_eq_true (by omega)]; rfl) | (rw [show k_tc bx at0 ln sc m 6 = q_b (decide (k_wr bx = 0)) from rfl, decide_eq_false (by omega)]; rfl), rfl⟩)
    · refine q_iconst (v := nI 1) C dX7_tellsCount_123 124 rfl (by decide) ?_
      refine q_goto C dX7_tellsCount_124 128 (by decide) ?_
      exact q_iret C B dX7_tellsCount_128 rfl rfl (fun t0 ht0 => ⟨by first | (rw [show k_tc bx at0 ln sc m 6 = q_b (decide (k_wr bx = 0)) from rfl, decide_eq_true (by omega)]; rfl) | (rw [show k_tc bx at0 ln sc m 6 = q_b (decide (k_wr bx = 0)) from rfl, decide_eq_false (by omega)]; rfl), rfl⟩)
  · refine q_tableIn C dX7_tellsCount_1 129 (by decide) (by decide) rfl (by decide) ?_
    refine q_aload_n C dX7_tellsCount_129 130 0 rfl rfl ?_
    obtain rfl := hP
    have hPo3 : k_isP cI h0 aS aZ aV aN aU aD fd hh [(h0, .inr (6, [.int (fd 0), .ref aS, .ref aZ, .ref aV, .int (fd 4), .ref aN, .int (fd 6), .ref aU, .int (fd 8), .int (fd 9), .int (fd 10), .ref aD, .int (fd 12), .int (fd 13), .int (fd 14), .long hh]))] := rfl
    refine q_get (k := 0) (j := 0) (f := 1) C hinX7 f7 (fun _ h => h) (by decide) rfl dX7_tellsCount_130 133 rfl rfl rfl rfl ?_
    refine q_iconst (v := nI 3) C dX7_tellsCount_133 134 rfl (by decide) ?_
    refine q_iload_n C dX7_tellsCount_134 135 1 rfl rfl ?_
    refine q_iadd (v := nI 10) C dX7_tellsCount_135 136 rfl (q_nadd (by omega)) ?_
    refine q_bipush (v := nI 7) C dX7_tellsCount_136 138 rfl (by decide) ?_
    refine q_isub (v := nI 3) C dX7_tellsCount_138 139 rfl (q_nsub (by omega) (by omega)) ?_
    obtain ⟨hat4, hok4, hlok4, f4, hm4, rfl⟩ := hQ
    have hll4 := hlok4.1
    have hQo4 : k_isQ cI aS bx at0 ln sc [(aS, .inl (cI, 350, .inl f4))] := ⟨hat4, hok4, hlok4, f4, hm4, rfl⟩
    refine q_iald (k := 1) (j := 0) (v := sc 3) C dX7_tellsCount_139 140 rfl rfl rfl hcI 3 rfl (by omega) (by decide) (hm4.1 3 (by decide) (by decide)) ?_
    exact q_iret C B dX7_tellsCount_140 rfl rfl (fun t0 ht0 => ⟨rfl, rfl⟩)
  · refine q_tableIn C dX7_tellsCount_1 129 (by decide) (by decide) rfl (by decide) ?_
    refine q_aload_n C dX7_tellsCount_129 130 0 rfl rfl ?_
    obtain rfl := hP
    have hPo5 : k_isP cI h0 aS aZ aV aN aU aD fd hh [(h0, .inr (6, [.int (fd 0), .ref aS, .ref aZ, .ref aV, .int (fd 4), .ref aN, .int (fd 6), .ref aU, .int (fd 8), .int (fd 9), .int (fd 10), .ref aD, .int (fd 12), .int (fd 13), .int (fd 14), .long hh]))] := rfl
    refine q_get (k := 0) (j := 0) (f := 1) C hinX7 f7 (fun _ h => h) (by decide) rfl dX7_tellsCount_130 133 rfl rfl rfl rfl ?_
    refine q_iconst (v := nI 3) C dX7_tellsCount_133 134 rfl (by decide) ?_
    refine q_iload_n C dX7_tellsCount_134 135 1 rfl rfl ?_
    refine q_iadd (v := nI 11) C dX7_tellsCount_135 136 rfl (q_nadd (by omega)) ?_
    refine q_bipush (v := nI 7) C dX7_tellsCount_136 138 rfl (by decide) ?_
    refine q_isub (v := nI 4) C dX7_tellsCount_138 139 rfl (q_nsub (by omega) (by omega)) ?_
    obtain ⟨hat6, hok6, hlok6, f6, hm6, rfl⟩ := hQ
    have hll6 := hlok6.1
    have hQo6 : k_isQ cI aS bx at0 ln sc [(aS, .inl (cI, 350, .inl f6))] := ⟨hat6, hok6, hlok6, f6, hm6, rfl⟩
    refine q_iald (k := 1) (j := 0) (v := nI at0) C dX7_tellsCount_139 140 rfl rfl rfl hcI 4 rfl (by omega) (by decide) (hm6.2.1) ?_
    exact q_iret C B dX7_tellsCount_140 rfl rfl (fun t0 ht0 => ⟨rfl, rfl⟩)
  · refine q_tableIn C dX7_tellsCount_1 129 (by decide) (by decide) rfl (by decide) ?_
    refine q_aload_n C dX7_tellsCount_129 130 0 rfl rfl ?_
    obtain rfl := hP
    have hPo7 : k_isP cI h0 aS aZ aV aN aU aD fd hh [(h0, .inr (6, [.int (fd 0), .ref aS, .ref aZ, .ref aV, .int (fd 4), .ref aN, .int (fd 6), .ref aU, .int (fd 8), .int (fd 9), .int (fd 10), .ref aD, .int (fd 12), .int (fd 13), .int (fd 14), .long hh]))] := rfl
    refine q_get (k := 0) (j := 0) (f := 1) C hinX7 f7 (fun _ h => h) (by decide) rfl dX7_tellsCount_130 133 rfl rfl rfl rfl ?_
    refine q_iconst (v := nI 3) C dX7_tellsCount_133 134 rfl (by decide) ?_
    refine q_iload_n C dX7_tellsCount_134 135 1 rfl rfl ?_
    refine q_iadd (v := nI 12) C dX7_tellsCount_135 136 rfl (q_nadd (by omega)) ?_
    refine q_bipush (v := nI 7) C dX7_tellsCount_136 138 rfl (by decide) ?_
    refine q_isub (v := nI 5) C dX7_tellsCount_138 139 rfl (q_nsub (by omega) (by omega)) ?_
    obtain ⟨hat8, hok8, hlok8, f8, hm8, rfl⟩ := hQ
    have hll8 := hlok8.1
    have hQo8 : k_isQ cI aS bx at0 ln sc [(aS, .inl (cI, 350, .inl f8))] := ⟨hat8, hok8, hlok8, f8, hm8, rfl⟩
    refine q_iald (k := 1) (j := 0) (v := sc 5) C dX7_tellsCount_139 140 rfl rfl rfl hcI 5 rfl (by omega) (by decide) (hm8.1 5 (by decide) (by decide)) ?_
    exact q_iret C B dX7_tellsCount_140 rfl rfl (fun t0 ht0 => ⟨rfl, rfl⟩)
  · refine q_tableIn C dX7_tellsCount_1 129 (by decide) (by decide) rfl (by decide) ?_
    refine q_aload_n C dX7_tellsCount_129 130 0 rfl rfl ?_
    obtain rfl := hP
    have hPo9 : k_isP cI h0 aS aZ aV aN aU aD fd hh [(h0, .inr (6, [.int (fd 0), .ref aS, .ref aZ, .ref aV, .int (fd 4), .ref aN, .int (fd 6), .ref aU, .int (fd 8), .int (fd 9), .int (fd 10), .ref aD, .int (fd 12), .int (fd 13), .int (fd 14), .long hh]))] := rfl
    refine q_get (k := 0) (j := 0) (f := 1) C hinX7 f7 (fun _ h => h) (by decide) rfl dX7_tellsCount_130 133 rfl rfl rfl rfl ?_
    refine q_iconst (v := nI 3) C dX7_tellsCount_133 134 rfl (by decide) ?_
    refine q_iload_n C dX7_tellsCount_134 135 1 rfl rfl ?_
    refine q_iadd (v := nI 13) C dX7_tellsCount_135 136 rfl (q_nadd (by omega)) ?_
    refine q_bipush (v := nI 7) C dX7_tellsCount_136 138 rfl (by decide) ?_
    refine q_isub (v := nI 6) C dX7_tellsCount_138 139 rfl (q_nsub (by omega) (by omega)) ?_
    obtain ⟨hat10, hok10, hlok10, f10, hm10, rfl⟩ := hQ
    have hll10 := hlok10.1
    have hQo10 : k_isQ cI aS bx at0 ln sc [(aS, .inl (cI, 350, .inl f10))] := ⟨hat10, hok10, hlok10, f10, hm10, rfl⟩
    refine q_iald (k := 1) (j := 0) (v := sc 6) C dX7_tellsCount_139 140 rfl rfl rfl hcI 6 rfl (by omega) (by decide) (hm10.1 6 (by decide) (by decide)) ?_
    exact q_iret C B dX7_tellsCount_140 rfl rfl (fun t0 ht0 => ⟨rfl, rfl⟩)
  · refine q_tableIn C dX7_tellsCount_1 129 (by decide) (by decide) rfl (by decide) ?_
    refine q_aload_n C dX7_tellsCount_129 130 0 rfl rfl ?_
    obtain rfl := hP
    have hPo11 : k_isP cI h0 aS aZ aV aN aU aD fd hh [(h0, .inr (6, [.int (fd 0), .ref aS, .ref aZ, .ref aV, .int (fd 4), .ref aN, .int (fd 6), .ref aU, .int (fd 8), .int (fd 9), .int (fd 10), .ref aD, .int (fd 12), .int (fd 13), .int (fd 14), .long hh]))] := rfl
    refine q_get (k := 0) (j := 0) (f := 1) C hinX7 f7 (fun _ h => h) (by decide) rfl dX7_tellsCount_130 133 rfl rfl rfl rfl ?_
    refine q_iconst (v := nI 3) C dX7_tellsCount_133 134 rfl (by decide) ?_
    refine q_iload_n C dX7_tellsCount_134 135 1 rfl rfl ?_
    refine q_iadd (v := nI 14) C dX7_tellsCount_135 136 rfl (q_nadd (by omega)) ?_
    refine q_bipush (v := nI 7) C dX7_tellsCount_136 138 rfl (by decide) ?_
    refine q_isub (v := nI 7) C dX7_tellsCount_138 139 rfl (q_nsub (by omega) (by omega)) ?_
    obtain ⟨hat12, hok12, hlok12, f12, hm12, rfl⟩ := hQ
    have hll12 := hlok12.1
    have hQo12 : k_isQ cI aS bx at0 ln sc [(aS, .inl (cI, 350, .inl f12))] := ⟨hat12, hok12, hlok12, f12, hm12, rfl⟩
    refine q_iald (k := 1) (j := 0) (v := sc 7) C dX7_tellsCount_139 140 rfl rfl rfl hcI 7 rfl (by omega) (by decide) (hm12.1 7 (by decide) (by decide)) ?_
    exact q_iret C B dX7_tellsCount_140 rfl rfl (fun t0 ht0 => ⟨rfl, rfl⟩)
  · refine q_tableIn C dX7_tellsCount_1 129 (by decide) (by decide) rfl (by decide) ?_
    refine q_aload_n C dX7_tellsCount_129 130 0 rfl rfl ?_
    obtain rfl := hP
    have hPo13 : k_isP cI h0 aS aZ aV aN aU aD fd hh [(h0, .inr (6, [.int (fd 0), .ref aS, .ref aZ, .ref aV, .int (fd 4), .ref aN, .int (fd 6), .ref aU, .int (fd 8), .int (fd 9), .int (fd 10), .ref aD, .int (fd 12), .int (fd 13), .int (fd 14), .long hh]))] := rfl
    refine q_get (k := 0) (j := 0) (f := 1) C hinX7 f7 (fun _ h => h) (by decide) rfl dX7_tellsCount_130 133 rfl rfl rfl rfl ?_
    refine q_iconst (v := nI 3) C dX7_tellsCount_133 134 rfl (by decide) ?_
    refine q_iload_n C dX7_tellsCount_134 135 1 rfl rfl ?_
    refine q_iadd (v := nI 15) C dX7_tellsCount_135 136 rfl (q_nadd (by omega)) ?_
    refine q_bipush (v := nI 7) C dX7_tellsCount_136 138 rfl (by decide) ?_
    refine q_isub (v := nI 8) C dX7_tellsCount_138 139 rfl (q_nsub (by omega) (by omega)) ?_
    obtain ⟨hat14, hok14, hlok14, f14, hm14, rfl⟩ := hQ
    have hll14 := hlok14.1
    have hQo14 : k_isQ cI aS bx at0 ln sc [(aS, .inl (cI, 350, .inl f14))] := ⟨hat14, hok14, hlok14, f14, hm14, rfl⟩
    refine q_iald (k := 1) (j := 0) (v := sc 8) C dX7_tellsCount_139 140 rfl rfl rfl hcI 8 rfl (by omega) (by decide) (hm14.1 8 (by decide) (by decide)) ?_
    exact q_iret C B dX7_tellsCount_140 rfl rfl (fun t0 ht0 => ⟨rfl, rfl⟩)
  · refine q_tableIn C dX7_tellsCount_1 129 (by decide) (by decide) rfl (by decide) ?_
    refine q_aload_n C dX7_tellsCount_129 130 0 rfl rfl ?_
    obtain rfl := hP
    have hPo15 : k_isP cI h0 aS aZ aV aN aU aD fd hh [(h0, .inr (6, [.int (fd 0), .ref aS, .ref aZ, .ref aV, .int (fd 4), .ref aN, .int (fd 6), .ref aU, .int (fd 8), .int (fd 9), .int (fd 10), .ref aD, .int (fd 12), .int (fd 13), .int (fd 14), .long hh]))] := rfl
    refine q_get (k := 0) (j := 0) (f := 1) C hinX7 f7 (fun _ h => h) (by decide) rfl dX7_tellsCount_130 133 rfl rfl rfl rfl ?_
    refine q_iconst (v := nI 3) C dX7_tellsCount_133 134 rfl (by decide) ?_
    refine q_iload_n C dX7_tellsCount_134 135 1 rfl rfl ?_
    refine q_iadd (v := nI 16) C dX7_tellsCount_135 136 rfl (q_nadd (by omega)) ?_
    refine q_bipush (v := nI 7) C dX7_tellsCount_136 138 rfl (by decide) ?_
    refine q_isub (v := nI 9) C dX7_tellsCount_138 139 rfl (q_nsub (by omega) (by omega)) ?_
    obtain ⟨hat16, hok16, hlok16, f16, hm16, rfl⟩ := hQ
    have hll16 := hlok16.1
    have hQo16 : k_isQ cI aS bx at0 ln sc [(aS, .inl (cI, 350, .inl f16))] := ⟨hat16, hok16, hlok16, f16, hm16, rfl⟩
    refine q_iald (k := 1) (j := 0) (v := sc 9) C dX7_tellsCount_139 140 rfl rfl rfl hcI 9 rfl (by omega) (by decide) (hm16.1 9 (by decide) (by decide)) ?_
    exact q_iret C B dX7_tellsCount_140 rfl rfl (fun t0 ht0 => ⟨rfl, rfl⟩)
  · refine q_tableIn C dX7_tellsCount_1 146 (by decide) (by decide) rfl (by decide) ?_
    refine q_aload_n C dX7_tellsCount_146 147 0 rfl rfl ?_
    obtain rfl := hP
    have hPo17 : k_isP cI h0 aS aZ aV aN aU aD fd hh [(h0, .inr (6, [.int (fd 0), .ref aS, .ref aZ, .ref aV, .int (fd 4), .ref aN, .int (fd 6), .ref aU, .int (fd 8), .int (fd 9), .int (fd 10), .ref aD, .int (fd 12), .int (fd 13), .int (fd 14), .long hh]))] := rfl
    refine q_get (k := 0) (j := 0) (f := 1) C hinX7 f7 (fun _ h => h) (by decide) rfl dX7_tellsCount_147 150 rfl rfl rfl rfl ?_
    refine q_iload_n C dX7_tellsCount_150 151 1 rfl rfl ?_
    refine q_bipush (v := nI 14) C dX7_tellsCount_151 153 rfl (by decide) ?_
    refine q_isub (v := nI 0) C dX7_tellsCount_153 154 rfl (q_nsub (by omega) (by omega)) ?_
    obtain ⟨hat18, hok18, hlok18, f18, hm18, rfl⟩ := hQ
    have hll18 := hlok18.1
    have hQo18 : k_isQ cI aS bx at0 ln sc [(aS, .inl (cI, 350, .inl f18))] := ⟨hat18, hok18, hlok18, f18, hm18, rfl⟩
    refine q_iald (k := 1) (j := 0) (v := sc 0) C dX7_tellsCount_154 155 rfl rfl rfl hcI 0 rfl (by omega) (by decide) (hm18.1 0 (by decide) (by decide)) ?_
    exact q_iret C B dX7_tellsCount_155 rfl rfl (fun t0 ht0 => ⟨rfl, rfl⟩)
  · refine q_tableIn C dX7_tellsCount_1 146 (by decide) (by decide) rfl (by decide) ?_
    refine q_aload_n C dX7_tellsCount_146 147 0 rfl rfl ?_
    obtain rfl := hP
    have hPo19 : k_isP cI h0 aS aZ aV aN aU aD fd hh [(h0, .inr (6, [.int (fd 0), .ref aS, .ref aZ, .ref aV, .int (fd 4), .ref aN, .int (fd 6), .ref aU, .int (fd 8), .int (fd 9), .int (fd 10), .ref aD, .int (fd 12), .int (fd 13), .int (fd 14), .long hh]))] := rfl
    refine q_get (k := 0) (j := 0) (f := 1) C hinX7 f7 (fun _ h => h) (by decide) rfl dX7_tellsCount_147 150 rfl rfl rfl rfl ?_
    refine q_iload_n C dX7_tellsCount_150 151 1 rfl rfl ?_
    refine q_bipush (v := nI 14) C dX7_tellsCount_151 153 rfl (by decide) ?_
    refine q_isub (v := nI 1) C dX7_tellsCount_153 154 rfl (q_nsub (by omega) (by omega)) ?_
    obtain ⟨hat20, hok20, hlok20, f20, hm20, rfl⟩ := hQ
    have hll20 := hlok20.1
    have hQo20 : k_isQ cI aS bx at0 ln sc [(aS, .inl (cI, 350, .inl f20))] := ⟨hat20, hok20, hlok20, f20, hm20, rfl⟩
    refine q_iald (k := 1) (j := 0) (v := sc 1) C dX7_tellsCount_154 155 rfl rfl rfl hcI 1 rfl (by omega) (by decide) (hm20.1 1 (by decide) (by decide)) ?_
    exact q_iret C B dX7_tellsCount_155 rfl rfl (fun t0 ht0 => ⟨rfl, rfl⟩)
  · refine q_tableIn C dX7_tellsCount_1 146 (by decide) (by decide) rfl (by decide) ?_
    refine q_aload_n C dX7_tellsCount_146 147 0 rfl rfl ?_
    obtain rfl := hP
    have hPo21 : k_isP cI h0 aS aZ aV aN aU aD fd hh [(h0, .inr (6, [.int (fd 0), .ref aS, .ref aZ, .ref aV, .int (fd 4), .ref aN, .int (fd 6), .ref aU, .int (fd 8), .int (fd 9), .int (fd 10), .ref aD, .int (fd 12), .int (fd 13), .int (fd 14), .long hh]))] := rfl
    refine q_get (k := 0) (j := 0) (f := 1) C hinX7 f7 (fun _ h => h) (by decide) rfl dX7_tellsCount_147 150 rfl rfl rfl rfl ?_
    refine q_iload_n C dX7_tellsCount_150 151 1 rfl rfl ?_
    refine q_bipush (v := nI 14) C dX7_tellsCount_151 153 rfl (by decide) ?_
    refine q_isub (v := nI 2) C dX7_tellsCount_153 154 rfl (q_nsub (by omega) (by omega)) ?_
    obtain ⟨hat22, hok22, hlok22, f22, hm22, rfl⟩ := hQ
    have hll22 := hlok22.1
    have hQo22 : k_isQ cI aS bx at0 ln sc [(aS, .inl (cI, 350, .inl f22))] := ⟨hat22, hok22, hlok22, f22, hm22, rfl⟩
    refine q_iald (k := 1) (j := 0) (v := sc 2) C dX7_tellsCount_154 155 rfl rfl rfl hcI 2 rfl (by omega) (by decide) (hm22.1 2 (by decide) (by decide)) ?_
    exact q_iret C B dX7_tellsCount_155 rfl rfl (fun t0 ht0 => ⟨rfl, rfl⟩)
  · refine q_tableIn C dX7_tellsCount_1 141 (by decide) (by decide) rfl (by decide) ?_
    refine q_aload_n C dX7_tellsCount_141 142 0 rfl rfl ?_
    obtain rfl := hP
    have hPo23 : k_isP cI h0 aS aZ aV aN aU aD fd hh [(h0, .inr (6, [.int (fd 0), .ref aS, .ref aZ, .ref aV, .int (fd 4), .ref aN, .int (fd 6), .ref aU, .int (fd 8), .int (fd 9), .int (fd 10), .ref aD, .int (fd 12), .int (fd 13), .int (fd 14), .long hh]))] := rfl
    refine q_get (k := 0) (j := 0) (f := 4) C hinX7 f51 (fun _ h => h) (by decide) rfl dX7_tellsCount_142 145 rfl rfl rfl rfl ?_
    refine q_eqs (st' := [.int (nI m)]) (by rw [h4]) ?_
    exact q_iret C B dX7_tellsCount_145 rfl rfl (fun t0 ht0 => ⟨rfl, rfl⟩)

set_option maxHeartbeats 400000 in
set_option maxRecDepth 100000 in
theorem c_X7_count_a (l : Launch) {D : va_G} {tys : List (ClassId × FieldType)} {Z : (Nat → Prop) → State → Heap → Prop} (hZ : q_St Z) {cI : ClassId} (hI : tys[0]? = some (cI, .int)) (h0 : Nat) (aS : Nat) (aZ : Nat) (aV : Nat) (aN : Nat) (aU : Nat) (aD : Nat) (fd : Nat → Int32) (hh : Int64) (w : va_W) (h : k_isP cI h0 aS aZ aV aN aU aD fd hh w) (v : Int32) (hbad : ¬ (nI 0 ≤ v ∧ v ≤ nI 17)) : q_Ct l D tys Z yX7_count wsX7_count ({ frames := 5, cells := 0, slots := 0, locals := 162 } : Room) 0 0 [.ref h0, .int v] [w] (fun v0 R0 _ => v0 = some (.int (nI 0)) ∧ ∃ w', k_isP cI h0 aS aZ aV aN aU aD (upd (upd fd 0 (nI 0)) 0 (nI 1)) hh w' ∧ R0 = [w']) := by
  have hcI := hI
  refine q_ct (cc := cX7_count) (maxL := 2) (ret := (some .int)) (own := RX7) (by decide) rfl hZ (Nat.le_of_ble_eq_true rfl) rfl ?_
  intro p9 e9 R s9 m9 args below meth c9 A Q C B
  have hts := C.2.2.2.2.1
  have hinX7 : ∀ w ∈ u_ws RX7 TX7 16, w ∈ wsX7_count := by decide +kernel
  have f28 := hts (.fieldLink RX7 28 "SortCasesModel" "thrown" "I") (by decide +kernel)
  refine q_eqL (L' := [(0, .ref h0), (1, .int v)]) rfl ?_
  refine q_aload_n C dX7_count_0 1 0 rfl rfl ?_
  refine q_iconst (v := nI 0) C dX7_count_1 2 rfl (by decide) ?_
  obtain rfl := h
  have hPo1 : k_isP cI h0 aS aZ aV aN aU aD fd hh [(h0, .inr (6, [.int (fd 0), .ref aS, .ref aZ, .ref aV, .int (fd 4), .ref aN, .int (fd 6), .ref aU, .int (fd 8), .int (fd 9), .int (fd 10), .ref aD, .int (fd 12), .int (fd 13), .int (fd 14), .long hh]))] := rfl
  refine q_put (k := 0) (j := 0) (f := 0) C hinX7 tyX7 tyX7_ok nmX7 f28 (fun _ h => h) (by decide) rfl rfl (tyX7_ok 0 (by decide)) rfl rfl dX7_count_2 5 rfl rfl rfl (Nat.le_of_ble_eq_true rfl) [[(h0, .inr (6, [.int (nI 0), .ref aS, .ref aZ, .ref aV, .int (fd 4), .ref aN, .int (fd 6), .ref aU, .int (fd 8), .int (fd 9), .int (fd 10), .ref aD, .int (fd 12), .int (fd 13), .int (fd 14), .long hh]))]] rfl ?_
  have hPp2 : k_isP cI h0 aS aZ aV aN aU aD (upd fd 0 (nI 0)) hh [(h0, .inr (6, [.int (nI 0), .ref aS, .ref aZ, .ref aV, .int (fd 4), .ref aN, .int (fd 6), .ref aU, .int (fd 8), .int (fd 9), .int (fd 10), .ref aD, .int (fd 12), .int (fd 13), .int (fd 14), .long hh]))] := rfl
  refine q_iload_n C dX7_count_5 6 1 rfl rfl ?_
  refine q_iconst (v := nI 0) C dX7_count_6 7 rfl (by decide) ?_
  refine q_bipush (v := nI 17) C dX7_count_7 9 rfl (by decide) ?_
  refine q_callS (n := 3) (rest := []) (Rr := [[(h0, .inr (6, [.int (nI 0), .ref aS, .ref aZ, .ref aV, .int (fd 4), .ref aN, .int (fd 6), .ref aU, .int (fd 8), .int (fd 9), .int (fd 10), .ref aD, .int (fd 12), .int (fd 13), .int (fd 14), .long hh]))]]) C (c_X7_in_f l hZ hI v (nI 0) (nI 17) hbad) gX7_count_X7_in rfl rfl rfl (by decide +kernel) B.1 ⟨Nat.le_of_ble_eq_true rfl, Nat.le_of_ble_eq_true rfl⟩ rfl rfl (Nat.le_of_ble_eq_true rfl) dX7_count_9 ⟨Nat.le_of_ble_eq_true rfl, Nat.le_of_ble_eq_true rfl⟩ [] [0] (by decide : ([] ++ ([0] : List Nat)).Perm (List.range 1)) rfl rfl 12 rfl (fun v0 R0 t0 ht0 hp0 => ?_)
  obtain ⟨rfl, rfl⟩ := hp0
  refine q_eqs (st' := [.int (nI 0)]) rfl ?_
  refine q_eqR (Rs' := [[(h0, .inr (6, [.int (nI 0), .ref aS, .ref aZ, .ref aV, .int (fd 4), .ref aN, .int (fd 6), .ref aU, .int (fd 8), .int (fd 9), .int (fd 10), .ref aD, .int (fd 12), .int (fd 13), .int (fd 14), .long hh]))]]) rfl ?_
  refine q_if_eq C dX7_count_12 15 23 rfl (by decide) (q_eq0 (by omega)) (fun h12 => ?_) (fun h12 => False.elim (by first | omega | simp_all))
  refine q_aload_n C dX7_count_23 24 0 rfl rfl ?_
  refine q_iconst (v := nI 1) C dX7_count_24 25 rfl (by decide) ?_
  refine q_callV (k := 0) (ci := 6) (n := 1) (rest := []) (Rr := []) C rfl (k_isP_recv hPp2) rfl (c_X7_fails l hZ hI h0 aS aZ aV aN aU aD (upd fd 0 (nI 0)) hh ([(h0, .inr (6, [.int (nI 0), .ref aS, .ref aZ, .ref aV, .int (fd 4), .ref aN, .int (fd 6), .ref aU, .int (fd 8), .int (fd 9), .int (fd 10), .ref aD, .int (fd 12), .int (fd 13), .int (fd 14), .long hh]))]) hPp2 (nI 1)) gX7_count_X7_fails rfl rfl rfl (by decide +kernel) B.1 ⟨Nat.le_of_ble_eq_true rfl, Nat.le_of_ble_eq_true rfl⟩ rfl rfl (Nat.le_of_ble_eq_true rfl) dX7_count_25 ⟨Nat.le_of_ble_eq_true rfl, Nat.le_of_ble_eq_true rfl⟩ [0] [] (by decide : ([0] ++ ([] : List Nat)).Perm (List.range 1)) rfl rfl 28 rfl (fun v0 R0 t0 ht0 hp0 => ?_)
  obtain ⟨rfl, w_25, hw_25, rfl⟩ := hp0
  refine q_eqs (st' := [.int (nI 0)]) rfl ?_
  refine q_eqR (Rs' := [w_25]) rfl ?_
  exact q_iret C B dX7_count_28 rfl rfl (fun t0 ht0 => ⟨rfl, _, hw_25, by first | rfl | simp⟩)

set_option maxHeartbeats 400000 in
set_option maxRecDepth 100000 in
theorem c_X7_count_b (l : Launch) {D : va_G} {tys : List (ClassId × FieldType)} {Z : (Nat → Prop) → State → Heap → Prop} (hZ : q_St Z) {cI : ClassId} (hI : tys[0]? = some (cI, .int)) (h0 : Nat) (aS : Nat) (aZ : Nat) (aV : Nat) (aN : Nat) (aU : Nat) (aD : Nat) (fd : Nat → Int32) (hh : Int64) (wP : va_W) (hP : k_isP cI h0 aS aZ aV aN aU aD fd hh wP) (bx : k_Bx) (at0 : Nat) (ln : List (Nat × Nat)) (sc : Nat → Int32) (wQ : va_W) (hQ : k_isQ cI aS bx at0 ln sc wQ) (i : Nat) (m : Nat) (hi : i < 18) (hsv : m ≤ 6) (h4 : fd 4 = nI m) : q_Ct l D tys Z yX7_count wsX7_count ({ frames := 5, cells := 0, slots := 0, locals := 162 } : Room) 0 0 [.ref h0, .int (nI i)] [wP, wQ] (fun v0 R0 _ => v0 = some (.int (k_tc bx at0 ln sc m i)) ∧ ∃ wP', k_isP cI h0 aS aZ aV aN aU aD (upd fd 0 (nI 0)) hh wP' ∧ R0 = [wP', wQ]) := by
  have hcI := hI
  refine q_ct (cc := cX7_count) (maxL := 2) (ret := (some .int)) (own := RX7) (by decide) rfl hZ (Nat.le_of_ble_eq_true rfl) rfl ?_
  intro p9 e9 R s9 m9 args below meth c9 A Q C B
  have hts := C.2.2.2.2.1
  have hinX7 : ∀ w ∈ u_ws RX7 TX7 16, w ∈ wsX7_count := by decide +kernel
  have f28 := hts (.fieldLink RX7 28 "SortCasesModel" "thrown" "I") (by decide +kernel)
  refine q_eqL (L' := [(0, .ref h0), (1, .int (nI i))]) rfl ?_
  refine q_aload_n C dX7_count_0 1 0 rfl rfl ?_
  refine q_iconst (v := nI 0) C dX7_count_1 2 rfl (by decide) ?_
  obtain rfl := hP
  have hPo1 : k_isP cI h0 aS aZ aV aN aU aD fd hh [(h0, .inr (6, [.int (fd 0), .ref aS, .ref aZ, .ref aV, .int (fd 4), .ref aN, .int (fd 6), .ref aU, .int (fd 8), .int (fd 9), .int (fd 10), .ref aD, .int (fd 12), .int (fd 13), .int (fd 14), .long hh]))] := rfl
  refine q_put (k := 0) (j := 0) (f := 0) C hinX7 tyX7 tyX7_ok nmX7 f28 (fun _ h => h) (by decide) rfl rfl (tyX7_ok 0 (by decide)) rfl rfl dX7_count_2 5 rfl rfl rfl (Nat.le_of_ble_eq_true rfl) [[(h0, .inr (6, [.int (nI 0), .ref aS, .ref aZ, .ref aV, .int (fd 4), .ref aN, .int (fd 6), .ref aU, .int (fd 8), .int (fd 9), .int (fd 10), .ref aD, .int (fd 12), .int (fd 13), .int (fd 14), .long hh]))], wQ] rfl ?_
  have hPp2 : k_isP cI h0 aS aZ aV aN aU aD (upd fd 0 (nI 0)) hh [(h0, .inr (6, [.int (nI 0), .ref aS, .ref aZ, .ref aV, .int (fd 4), .ref aN, .int (fd 6), .ref aU, .int (fd 8), .int (fd 9), .int (fd 10), .ref aD, .int (fd 12), .int (fd 13), .int (fd 14), .long hh]))] := rfl
  refine q_iload_n C dX7_count_5 6 1 rfl rfl ?_
  refine q_iconst (v := nI 0) C dX7_count_6 7 rfl (by decide) ?_
  refine q_bipush (v := nI 17) C dX7_count_7 9 rfl (by decide) ?_
  refine q_callS (n := 3) (rest := []) (Rr := [[(h0, .inr (6, [.int (nI 0), .ref aS, .ref aZ, .ref aV, .int (fd 4), .ref aN, .int (fd 6), .ref aU, .int (fd 8), .int (fd 9), .int (fd 10), .ref aD, .int (fd 12), .int (fd 13), .int (fd 14), .long hh]))], wQ]) C (c_X7_in_t l hZ hI (nI i) (nI 0) (nI 17) (k_in2 (by omega) (by omega) (by omega))) gX7_count_X7_in rfl rfl rfl (by decide +kernel) B.1 ⟨Nat.le_of_ble_eq_true rfl, Nat.le_of_ble_eq_true rfl⟩ rfl rfl (Nat.le_of_ble_eq_true rfl) dX7_count_9 ⟨Nat.le_of_ble_eq_true rfl, Nat.le_of_ble_eq_true rfl⟩ [] [0, 1] (by decide : ([] ++ ([0, 1] : List Nat)).Perm (List.range 2)) rfl rfl 12 rfl (fun v0 R0 t0 ht0 hp0 => ?_)
  obtain ⟨rfl, rfl⟩ := hp0
  refine q_eqs (st' := [.int (nI 1)]) rfl ?_
  refine q_eqR (Rs' := [[(h0, .inr (6, [.int (nI 0), .ref aS, .ref aZ, .ref aV, .int (fd 4), .ref aN, .int (fd 6), .ref aU, .int (fd 8), .int (fd 9), .int (fd 10), .ref aD, .int (fd 12), .int (fd 13), .int (fd 14), .long hh]))], wQ]) rfl ?_
  refine q_if_eq C dX7_count_12 15 23 rfl (by decide) (q_eq0 (by omega)) (fun h12 => False.elim (by first | omega | simp_all)) (fun h12 => ?_)
  refine q_aload_n C dX7_count_15 16 0 rfl rfl ?_
  refine q_iload_n C dX7_count_16 17 1 rfl rfl ?_
  refine q_callV (k := 0) (ci := 6) (n := 1) (rest := []) (Rr := []) C rfl (k_isP_recv hPp2) rfl (c_X7_tellsCount l hZ hI h0 aS aZ aV aN aU aD (upd fd 0 (nI 0)) hh ([(h0, .inr (6, [.int (nI 0), .ref aS, .ref aZ, .ref aV, .int (fd 4), .ref aN, .int (fd 6), .ref aU, .int (fd 8), .int (fd 9), .int (fd 10), .ref aD, .int (fd 12), .int (fd 13), .int (fd 14), .long hh]))]) hPp2 bx at0 ln sc wQ hQ i m (by omega) (by omega) h4) gX7_count_X7_tellsCount rfl rfl rfl (by decide +kernel) B.1 ⟨Nat.le_of_ble_eq_true rfl, Nat.le_of_ble_eq_true rfl⟩ rfl rfl (Nat.le_of_ble_eq_true rfl) dX7_count_17 ⟨Nat.le_of_ble_eq_true rfl, Nat.le_of_ble_eq_true rfl⟩ [0, 1] [] (by decide : ([0, 1] ++ ([] : List Nat)).Perm (List.range 2)) rfl rfl 20 rfl (fun v0 R0 t0 ht0 hp0 => ?_)
  obtain ⟨rfl, rfl⟩ := hp0
  refine q_eqs (st' := [.int (k_tc bx at0 ln sc m i)]) rfl ?_
  refine q_eqR (Rs' := [[(h0, .inr (6, [.int (nI 0), .ref aS, .ref aZ, .ref aV, .int (fd 4), .ref aN, .int (fd 6), .ref aU, .int (fd 8), .int (fd 9), .int (fd 10), .ref aD, .int (fd 12), .int (fd 13), .int (fd 14), .long hh]))], wQ]) rfl ?_
  refine q_goto C dX7_count_20 28 (by decide) ?_
  exact q_iret C B dX7_count_28 rfl rfl (fun t0 ht0 => ⟨rfl, _, hPp2, by first | rfl | simp⟩)
