set_option maxHeartbeats 400000 in
set_option maxRecDepth 100000 in
theorem c_X7_append_a (l : Launch) {D : va_G} {tys : List (ClassId × FieldType)} {Z : (Nat → Prop) → State → Heap → Prop} (hZ : q_St Z) {cI : ClassId} (hI : tys[0]? = some (cI, .int)) (h0 : Nat) (aS : Nat) (aZ : Nat) (aV : Nat) (aN : Nat) (aU : Nat) (aD : Nat) (fd : Nat → Int32) (hh : Int64) (w : va_W) (h : k_isP cI h0 aS aZ aV aN aU aD fd hh w) (v : Int32) (hbad : ¬ (nI 33 ≤ v ∧ v ≤ nI 126)) : q_Ct l D tys Z yX7_append wsX7_append ({ frames := 2, cells := 0, slots := 0, locals := 72 } : Room) 0 0 [.ref h0, .int v] [w] (fun v0 R0 _ => v0 = some (.int (nI 0)) ∧ ∃ w', k_isP cI h0 aS aZ aV aN aU aD (upd (upd fd 0 (nI 0)) 0 (nI 1)) hh w' ∧ R0 = [w']) := by
  have hcI := hI
  refine q_ct (cc := cX7_append) (maxL := 2) (ret := (some .int)) (own := RX7) (by decide) rfl hZ (Nat.le_of_ble_eq_true rfl) rfl ?_
  intro p9 e9 R s9 m9 args below meth c9 A Q C B
  have hts := C.2.2.2.2.1
  have hinX7 : ∀ w ∈ u_ws RX7 TX7 16, w ∈ wsX7_append := by decide +kernel
  have f28 := hts (.fieldLink RX7 28 "SortCasesModel" "thrown" "I") (by decide +kernel)
  refine q_eqL (L' := [(0, .ref h0), (1, .int v)]) rfl ?_
  refine q_aload_n C dX7_append_0 1 0 rfl rfl ?_
  refine q_iconst (v := nI 0) C dX7_append_1 2 rfl (by decide) ?_
  obtain rfl := h
  have hPo1 : k_isP cI h0 aS aZ aV aN aU aD fd hh [(h0, .inr (6, [.int (fd 0), .ref aS, .ref aZ, .ref aV, .int (fd 4), .ref aN, .int (fd 6), .ref aU, .int (fd 8), .int (fd 9), .int (fd 10), .ref aD, .int (fd 12), .int (fd 13), .int (fd 14), .long hh]))] := rfl
  refine q_put (k := 0) (j := 0) (f := 0) C hinX7 tyX7 tyX7_ok nmX7 f28 (fun _ h => h) (by decide) rfl rfl (tyX7_ok 0 (by decide)) rfl rfl dX7_append_2 5 rfl rfl rfl (Nat.le_of_ble_eq_true rfl) [[(h0, .inr (6, [.int (nI 0), .ref aS, .ref aZ, .ref aV, .int (fd 4), .ref aN, .int (fd 6), .ref aU, .int (fd 8), .int (fd 9), .int (fd 10), .ref aD, .int (fd 12), .int (fd 13), .int (fd 14), .long hh]))]] rfl ?_
  have hPp2 : k_isP cI h0 aS aZ aV aN aU aD (upd fd 0 (nI 0)) hh [(h0, .inr (6, [.int (nI 0), .ref aS, .ref aZ, .ref aV, .int (fd 4), .ref aN, .int (fd 6), .ref aU, .int (fd 8), .int (fd 9), .int (fd 10), .ref aD, .int (fd 12), .int (fd 13), .int (fd 14), .long hh]))] := rfl
  refine q_iload_n C dX7_append_5 6 1 rfl rfl ?_
  refine q_bipush (v := nI 33) C dX7_append_6 8 rfl (by decide) ?_
  refine q_bipush (v := nI 126) C dX7_append_8 10 rfl (by decide) ?_
  refine q_callS (n := 3) (rest := []) (Rr := [[(h0, .inr (6, [.int (nI 0), .ref aS, .ref aZ, .ref aV, .int (fd 4), .ref aN, .int (fd 6), .ref aU, .int (fd 8), .int (fd 9), .int (fd 10), .ref aD, .int (fd 12), .int (fd 13), .int (fd 14), .long hh]))]]) C (c_X7_in_f l hZ hI v (nI 33) (nI 126) hbad) gX7_append_X7_in rfl rfl rfl (by decide +kernel) B.1 ⟨Nat.le_of_ble_eq_true rfl, Nat.le_of_ble_eq_true rfl⟩ rfl rfl (Nat.le_of_ble_eq_true rfl) dX7_append_10 ⟨Nat.le_of_ble_eq_true rfl, Nat.le_of_ble_eq_true rfl⟩ [] [0] (by decide : ([] ++ ([0] : List Nat)).Perm (List.range 1)) rfl rfl 13 rfl (fun v0 R0 t0 ht0 hp0 => ?_)
  obtain ⟨rfl, rfl⟩ := hp0
  refine q_eqs (st' := [.int (nI 0)]) rfl ?_
  refine q_eqR (Rs' := [[(h0, .inr (6, [.int (nI 0), .ref aS, .ref aZ, .ref aV, .int (fd 4), .ref aN, .int (fd 6), .ref aU, .int (fd 8), .int (fd 9), .int (fd 10), .ref aD, .int (fd 12), .int (fd 13), .int (fd 14), .long hh]))]]) rfl ?_
  refine q_if_ne C dX7_append_13 16 22 rfl (by decide) (q_eq0 (by omega)) (fun h13 => False.elim (by first | omega | simp_all)) (fun h13 => ?_)
  refine q_aload_n C dX7_append_16 17 0 rfl rfl ?_
  refine q_iconst (v := nI 1) C dX7_append_17 18 rfl (by decide) ?_
  refine q_callV (k := 0) (ci := 6) (n := 1) (rest := []) (Rr := []) C rfl (k_isP_recv hPp2) rfl (c_X7_fails l hZ hI h0 aS aZ aV aN aU aD (upd fd 0 (nI 0)) hh ([(h0, .inr (6, [.int (nI 0), .ref aS, .ref aZ, .ref aV, .int (fd 4), .ref aN, .int (fd 6), .ref aU, .int (fd 8), .int (fd 9), .int (fd 10), .ref aD, .int (fd 12), .int (fd 13), .int (fd 14), .long hh]))]) hPp2 (nI 1)) gX7_append_X7_fails rfl rfl rfl (by decide +kernel) B.1 ⟨Nat.le_of_ble_eq_true rfl, Nat.le_of_ble_eq_true rfl⟩ rfl rfl (Nat.le_of_ble_eq_true rfl) dX7_append_18 ⟨Nat.le_of_ble_eq_true rfl, Nat.le_of_ble_eq_true rfl⟩ [0] [] (by decide : ([0] ++ ([] : List Nat)).Perm (List.range 1)) rfl rfl 21 rfl (fun v0 R0 t0 ht0 hp0 => ?_)
  obtain ⟨rfl, w_18, hw_18, rfl⟩ := hp0
  refine q_eqs (st' := [.int (nI 0)]) rfl ?_
  refine q_eqR (Rs' := [w_18]) rfl ?_
  exact q_iret C B dX7_append_21 rfl rfl (fun t0 ht0 => ⟨rfl, _, hw_18, by first | rfl | simp⟩)

set_option maxHeartbeats 400000 in
set_option maxRecDepth 100000 in
theorem c_X7_append_b (l : Launch) {D : va_G} {tys : List (ClassId × FieldType)} {Z : (Nat → Prop) → State → Heap → Prop} (hZ : q_St Z) {cI : ClassId} (hI : tys[0]? = some (cI, .int)) (h0 : Nat) (aS : Nat) (aZ : Nat) (aV : Nat) (aN : Nat) (aU : Nat) (aD : Nat) (fd : Nat → Int32) (hh : Int64) (wP : va_W) (hP : k_isP cI h0 aS aZ aV aN aU aD fd hh wP) (tx : List Nat) (wU : va_W) (hU : k_isU cI aU tx wU) (x : Nat) (hx1 : 33 ≤ x) (hx2 : x ≤ 126) (q8 : fd 8 = nI tx.length) (hf : tx.length = 60) : q_Ct l D tys Z yX7_append wsX7_append ({ frames := 2, cells := 0, slots := 0, locals := 72 } : Room) 0 0 [.ref h0, .int (nI x)] [wP, wU] (fun v0 R0 _ => v0 = some (.int (nI 0)) ∧ ∃ wP', k_isP cI h0 aS aZ aV aN aU aD (upd (upd fd 0 (nI 0)) 0 (nI 2)) hh wP' ∧ R0 = [wP', wU]) := by
  have hcI := hI
  refine q_ct (cc := cX7_append) (maxL := 2) (ret := (some .int)) (own := RX7) (by decide) rfl hZ (Nat.le_of_ble_eq_true rfl) rfl ?_
  intro p9 e9 R s9 m9 args below meth c9 A Q C B
  have hts := C.2.2.2.2.1
  have hinX7 : ∀ w ∈ u_ws RX7 TX7 16, w ∈ wsX7_append := by decide +kernel
  have f28 := hts (.fieldLink RX7 28 "SortCasesModel" "thrown" "I") (by decide +kernel)
  have f129 := hts (.fieldLink RX7 129 "SortCasesModel" "length" "I") (by decide +kernel)
  refine q_eqL (L' := [(0, .ref h0), (1, .int (nI x))]) rfl ?_
  refine q_aload_n C dX7_append_0 1 0 rfl rfl ?_
  refine q_iconst (v := nI 0) C dX7_append_1 2 rfl (by decide) ?_
  obtain rfl := hP
  have hPo1 : k_isP cI h0 aS aZ aV aN aU aD fd hh [(h0, .inr (6, [.int (fd 0), .ref aS, .ref aZ, .ref aV, .int (fd 4), .ref aN, .int (fd 6), .ref aU, .int (fd 8), .int (fd 9), .int (fd 10), .ref aD, .int (fd 12), .int (fd 13), .int (fd 14), .long hh]))] := rfl
  refine q_put (k := 0) (j := 0) (f := 0) C hinX7 tyX7 tyX7_ok nmX7 f28 (fun _ h => h) (by decide) rfl rfl (tyX7_ok 0 (by decide)) rfl rfl dX7_append_2 5 rfl rfl rfl (Nat.le_of_ble_eq_true rfl) [[(h0, .inr (6, [.int (nI 0), .ref aS, .ref aZ, .ref aV, .int (fd 4), .ref aN, .int (fd 6), .ref aU, .int (fd 8), .int (fd 9), .int (fd 10), .ref aD, .int (fd 12), .int (fd 13), .int (fd 14), .long hh]))], wU] rfl ?_
  have hPp2 : k_isP cI h0 aS aZ aV aN aU aD (upd fd 0 (nI 0)) hh [(h0, .inr (6, [.int (nI 0), .ref aS, .ref aZ, .ref aV, .int (fd 4), .ref aN, .int (fd 6), .ref aU, .int (fd 8), .int (fd 9), .int (fd 10), .ref aD, .int (fd 12), .int (fd 13), .int (fd 14), .long hh]))] := rfl
  refine q_iload_n C dX7_append_5 6 1 rfl rfl ?_
  refine q_bipush (v := nI 33) C dX7_append_6 8 rfl (by decide) ?_
  refine q_bipush (v := nI 126) C dX7_append_8 10 rfl (by decide) ?_
  refine q_callS (n := 3) (rest := []) (Rr := [[(h0, .inr (6, [.int (nI 0), .ref aS, .ref aZ, .ref aV, .int (fd 4), .ref aN, .int (fd 6), .ref aU, .int (fd 8), .int (fd 9), .int (fd 10), .ref aD, .int (fd 12), .int (fd 13), .int (fd 14), .long hh]))], wU]) C (c_X7_in_t l hZ hI (nI x) (nI 33) (nI 126) (k_in2 (by omega) (by omega) (by omega))) gX7_append_X7_in rfl rfl rfl (by decide +kernel) B.1 ⟨Nat.le_of_ble_eq_true rfl, Nat.le_of_ble_eq_true rfl⟩ rfl rfl (Nat.le_of_ble_eq_true rfl) dX7_append_10 ⟨Nat.le_of_ble_eq_true rfl, Nat.le_of_ble_eq_true rfl⟩ [] [0, 1] (by decide : ([] ++ ([0, 1] : List Nat)).Perm (List.range 2)) rfl rfl 13 rfl (fun v0 R0 t0 ht0 hp0 => ?_)
  obtain ⟨rfl, rfl⟩ := hp0
  refine q_eqs (st' := [.int (nI 1)]) rfl ?_
  refine q_eqR (Rs' := [[(h0, .inr (6, [.int (nI 0), .ref aS, .ref aZ, .ref aV, .int (fd 4), .ref aN, .int (fd 6), .ref aU, .int (fd 8), .int (fd 9), .int (fd 10), .ref aD, .int (fd 12), .int (fd 13), .int (fd 14), .long hh]))], wU]) rfl ?_
  refine q_if_ne C dX7_append_13 16 22 rfl (by decide) (q_eq0 (by omega)) (fun h13 => ?_) (fun h13 => False.elim (by first | omega | simp_all))
  refine q_aload_n C dX7_append_22 23 0 rfl rfl ?_
  refine q_get (k := 0) (j := 0) (f := 8) C hinX7 f129 (fun _ h => h) (by decide) rfl dX7_append_23 26 rfl rfl rfl rfl ?_
  refine q_eqs (st' := [.int (nI tx.length)]) (by rw [q8]) ?_
  refine q_bipush (v := nI 60) C dX7_append_26 28 rfl (by decide) ?_
  refine q_icmp_ne C dX7_append_28 31 37 rfl (by decide) (nI_eq (by omega) (by omega)) (fun h28 => False.elim (by first | omega | simp_all)) (fun h28 => ?_)
  refine q_aload_n C dX7_append_31 32 0 rfl rfl ?_
  refine q_iconst (v := nI 2) C dX7_append_32 33 rfl (by decide) ?_
  refine q_callV (k := 0) (ci := 6) (n := 1) (rest := []) (Rr := [wU]) C rfl (k_isP_recv hPp2) rfl (c_X7_fails l hZ hI h0 aS aZ aV aN aU aD (upd fd 0 (nI 0)) hh ([(h0, .inr (6, [.int (nI 0), .ref aS, .ref aZ, .ref aV, .int (fd 4), .ref aN, .int (fd 6), .ref aU, .int (fd 8), .int (fd 9), .int (fd 10), .ref aD, .int (fd 12), .int (fd 13), .int (fd 14), .long hh]))]) hPp2 (nI 2)) gX7_append_X7_fails rfl rfl rfl (by decide +kernel) B.1 ⟨Nat.le_of_ble_eq_true rfl, Nat.le_of_ble_eq_true rfl⟩ rfl rfl (Nat.le_of_ble_eq_true rfl) dX7_append_33 ⟨Nat.le_of_ble_eq_true rfl, Nat.le_of_ble_eq_true rfl⟩ [0] [1] (by decide : ([0] ++ ([1] : List Nat)).Perm (List.range 2)) rfl rfl 36 rfl (fun v0 R0 t0 ht0 hp0 => ?_)
  obtain ⟨rfl, w_33, hw_33, rfl⟩ := hp0
  refine q_eqs (st' := [.int (nI 0)]) rfl ?_
  refine q_eqR (Rs' := [w_33, wU]) rfl ?_
  exact q_iret C B dX7_append_36 rfl rfl (fun t0 ht0 => ⟨rfl, _, hw_33, by first | rfl | simp⟩)

set_option maxHeartbeats 400000 in
set_option maxRecDepth 100000 in
theorem c_X7_append_c (l : Launch) {D : va_G} {tys : List (ClassId × FieldType)} {Z : (Nat → Prop) → State → Heap → Prop} (hZ : q_St Z) {cI : ClassId} (hI : tys[0]? = some (cI, .int)) (h0 : Nat) (aS : Nat) (aZ : Nat) (aV : Nat) (aN : Nat) (aU : Nat) (aD : Nat) (fd : Nat → Int32) (hh : Int64) (wP : va_W) (hP : k_isP cI h0 aS aZ aV aN aU aD fd hh wP) (tx : List Nat) (wU : va_W) (hU : k_isU cI aU tx wU) (x : Nat) (hx1 : 33 ≤ x) (hx2 : x ≤ 126) (q8 : fd 8 = nI tx.length) (hf : tx.length < 60) : q_Ct l D tys Z yX7_append wsX7_append ({ frames := 2, cells := 0, slots := 0, locals := 72 } : Room) 0 0 [.ref h0, .int (nI x)] [wP, wU] (fun v0 R0 _ => v0 = some (.int (nI (tx.length + 1))) ∧ ∃ wP', k_isP cI h0 aS aZ aV aN aU aD (upd (upd fd 0 (nI 0)) 8 (nI (tx.length + 1))) hh wP' ∧ ∃ wU', k_isU cI aU (tx ++ [x]) wU' ∧ R0 = [wP', wU']) := by
  have hcI := hI
  refine q_ct (cc := cX7_append) (maxL := 2) (ret := (some .int)) (own := RX7) (by decide) rfl hZ (Nat.le_of_ble_eq_true rfl) rfl ?_
  intro p9 e9 R s9 m9 args below meth c9 A Q C B
  have hts := C.2.2.2.2.1
  have hinX7 : ∀ w ∈ u_ws RX7 TX7 16, w ∈ wsX7_append := by decide +kernel
  have f28 := hts (.fieldLink RX7 28 "SortCasesModel" "thrown" "I") (by decide +kernel)
  have f129 := hts (.fieldLink RX7 129 "SortCasesModel" "length" "I") (by decide +kernel)
  have f22 := hts (.fieldLink RX7 22 "SortCasesModel" "buffer" "[I") (by decide +kernel)
  refine q_eqL (L' := [(0, .ref h0), (1, .int (nI x))]) rfl ?_
  refine q_aload_n C dX7_append_0 1 0 rfl rfl ?_
  refine q_iconst (v := nI 0) C dX7_append_1 2 rfl (by decide) ?_
  obtain rfl := hP
  have hPo1 : k_isP cI h0 aS aZ aV aN aU aD fd hh [(h0, .inr (6, [.int (fd 0), .ref aS, .ref aZ, .ref aV, .int (fd 4), .ref aN, .int (fd 6), .ref aU, .int (fd 8), .int (fd 9), .int (fd 10), .ref aD, .int (fd 12), .int (fd 13), .int (fd 14), .long hh]))] := rfl
  refine q_put (k := 0) (j := 0) (f := 0) C hinX7 tyX7 tyX7_ok nmX7 f28 (fun _ h => h) (by decide) rfl rfl (tyX7_ok 0 (by decide)) rfl rfl dX7_append_2 5 rfl rfl rfl (Nat.le_of_ble_eq_true rfl) [[(h0, .inr (6, [.int (nI 0), .ref aS, .ref aZ, .ref aV, .int (fd 4), .ref aN, .int (fd 6), .ref aU, .int (fd 8), .int (fd 9), .int (fd 10), .ref aD, .int (fd 12), .int (fd 13), .int (fd 14), .long hh]))], wU] rfl ?_
  have hPp2 : k_isP cI h0 aS aZ aV aN aU aD (upd fd 0 (nI 0)) hh [(h0, .inr (6, [.int (nI 0), .ref aS, .ref aZ, .ref aV, .int (fd 4), .ref aN, .int (fd 6), .ref aU, .int (fd 8), .int (fd 9), .int (fd 10), .ref aD, .int (fd 12), .int (fd 13), .int (fd 14), .long hh]))] := rfl
  refine q_iload_n C dX7_append_5 6 1 rfl rfl ?_
  refine q_bipush (v := nI 33) C dX7_append_6 8 rfl (by decide) ?_
  refine q_bipush (v := nI 126) C dX7_append_8 10 rfl (by decide) ?_
  refine q_callS (n := 3) (rest := []) (Rr := [[(h0, .inr (6, [.int (nI 0), .ref aS, .ref aZ, .ref aV, .int (fd 4), .ref aN, .int (fd 6), .ref aU, .int (fd 8), .int (fd 9), .int (fd 10), .ref aD, .int (fd 12), .int (fd 13), .int (fd 14), .long hh]))], wU]) C (c_X7_in_t l hZ hI (nI x) (nI 33) (nI 126) (k_in2 (by omega) (by omega) (by omega))) gX7_append_X7_in rfl rfl rfl (by decide +kernel) B.1 ⟨Nat.le_of_ble_eq_true rfl, Nat.le_of_ble_eq_true rfl⟩ rfl rfl (Nat.le_of_ble_eq_true rfl) dX7_append_10 ⟨Nat.le_of_ble_eq_true rfl, Nat.le_of_ble_eq_true rfl⟩ [] [0, 1] (by decide : ([] ++ ([0, 1] : List Nat)).Perm (List.range 2)) rfl rfl 13 rfl (fun v0 R0 t0 ht0 hp0 => ?_)
  obtain ⟨rfl, rfl⟩ := hp0
  refine q_eqs (st' := [.int (nI 1)]) rfl ?_
  refine q_eqR (Rs' := [[(h0, .inr (6, [.int (nI 0), .ref aS, .ref aZ, .ref aV, .int (fd 4), .ref aN, .int (fd 6), .ref aU, .int (fd 8), .int (fd 9), .int (fd 10), .ref aD, .int (fd 12), .int (fd 13), .int (fd 14), .long hh]))], wU]) rfl ?_
  refine q_if_ne C dX7_append_13 16 22 rfl (by decide) (q_eq0 (by omega)) (fun h13 => ?_) (fun h13 => False.elim (by first | omega | simp_all))
  refine q_aload_n C dX7_append_22 23 0 rfl rfl ?_
  refine q_get (k := 0) (j := 0) (f := 8) C hinX7 f129 (fun _ h => h) (by decide) rfl dX7_append_23 26 rfl rfl rfl rfl ?_
  refine q_eqs (st' := [.int (nI tx.length)]) (by rw [q8]) ?_
  refine q_bipush (v := nI 60) C dX7_append_26 28 rfl (by decide) ?_
  refine q_icmp_ne C dX7_append_28 31 37 rfl (by decide) (nI_eq (by omega) (by omega)) (fun h28 => ?_) (fun h28 => False.elim (by first | omega | simp_all))
  refine q_aload_n C dX7_append_37 38 0 rfl rfl ?_
  refine q_get (k := 0) (j := 0) (f := 7) C hinX7 f22 (fun _ h => h) (by decide) rfl dX7_append_38 41 rfl rfl rfl rfl ?_
  refine q_aload_n C dX7_append_41 42 0 rfl rfl ?_
  refine q_get (k := 0) (j := 0) (f := 8) C hinX7 f129 (fun _ h => h) (by decide) rfl dX7_append_42 45 rfl rfl rfl rfl ?_
  refine q_eqs (st' := [.int (nI tx.length), .ref aU]) (by rw [q8]) ?_
  refine q_iload_n C dX7_append_45 46 1 rfl rfl ?_
  obtain ⟨htk3, fu3, htr3, rfl⟩ := hU
  have htl3 := htk3.1
  have hUo3 : k_isU cI aU tx [(aU, .inl (cI, 60, .inl fu3))] := ⟨htk3, fu3, htr3, rfl⟩
  refine q_iast (k := 1) (j := 0) C dX7_append_46 47 rfl rfl rfl hcI tx.length rfl (by omega) (by decide) [[(h0, .inr (6, [.int (nI 0), .ref aS, .ref aZ, .ref aV, .int (fd 4), .ref aN, .int (fd 6), .ref aU, .int (fd 8), .int (fd 9), .int (fd 10), .ref aD, .int (fd 12), .int (fd 13), .int (fd 14), .long hh]))], [(aU, .inl (cI, 60, .inl (upd fu3 tx.length (nI x))))]] rfl ?_
  refine q_aload_n C dX7_append_47 48 0 rfl rfl ?_
  refine q_dup C dX7_append_48 49 rfl rfl ?_
  refine q_get (k := 0) (j := 0) (f := 8) C hinX7 f129 (fun _ h => h) (by decide) rfl dX7_append_49 52 rfl rfl rfl rfl ?_
  refine q_eqs (st' := [.int (nI tx.length), .ref h0]) (by rw [q8]) ?_
  refine q_iconst (v := nI 1) C dX7_append_52 53 rfl (by decide) ?_
  refine q_iadd (v := nI (tx.length + 1)) C dX7_append_53 54 rfl (q_nadd (by omega)) ?_
  refine q_put (k := 0) (j := 0) (f := 8) C hinX7 tyX7 tyX7_ok nmX7 f129 (fun _ h => h) (by decide) rfl rfl (tyX7_ok 8 (by decide)) rfl rfl dX7_append_54 57 rfl rfl rfl (Nat.le_of_ble_eq_true rfl) [[(h0, .inr (6, [.int (nI 0), .ref aS, .ref aZ, .ref aV, .int (fd 4), .ref aN, .int (fd 6), .ref aU, .int (nI (tx.length + 1)), .int (fd 9), .int (fd 10), .ref aD, .int (fd 12), .int (fd 13), .int (fd 14), .long hh]))], [(aU, .inl (cI, 60, .inl (upd fu3 tx.length (nI x))))]] rfl ?_
  have hPp4 : k_isP cI h0 aS aZ aV aN aU aD (upd (upd fd 0 (nI 0)) 8 (nI (tx.length + 1))) hh [(h0, .inr (6, [.int (nI 0), .ref aS, .ref aZ, .ref aV, .int (fd 4), .ref aN, .int (fd 6), .ref aU, .int (nI (tx.length + 1)), .int (fd 9), .int (fd 10), .ref aD, .int (fd 12), .int (fd 13), .int (fd 14), .long hh]))] := rfl
  refine q_aload_n C dX7_append_57 58 0 rfl rfl ?_
  refine q_get (k := 0) (j := 0) (f := 8) C hinX7 f129 (fun _ h => h) (by decide) rfl dX7_append_58 61 rfl rfl rfl rfl ?_
  exact q_iret C B dX7_append_61 rfl rfl (fun t0 ht0 => ⟨rfl, _, hPp4, _, ⟨k_Tok_app htk3 hf ⟨hx1, hx2⟩, _, k_TR_app htr3, rfl⟩, rfl⟩)

set_option maxHeartbeats 400000 in
set_option maxRecDepth 100000 in
theorem c_X7_clearBuffer (l : Launch) {D : va_G} {tys : List (ClassId × FieldType)} {Z : (Nat → Prop) → State → Heap → Prop} (hZ : q_St Z) {cI : ClassId} (hI : tys[0]? = some (cI, .int)) (h0 : Nat) (aS : Nat) (aZ : Nat) (aV : Nat) (aN : Nat) (aU : Nat) (aD : Nat) (fd : Nat → Int32) (hh : Int64) (wP : va_W) (hP : k_isP cI h0 aS aZ aV aN aU aD fd hh wP) (tx : List Nat) (wU : va_W) (hU : k_isU cI aU tx wU) (q8 : fd 8 = nI tx.length) : q_Ct l D tys Z yX7_clearBuffer wsX7_clearBuffer ({ frames := 1, cells := 0, slots := 0, locals := 42 } : Room) 0 0 [.ref h0] [wP, wU] (fun v0 R0 _ => v0 = some (.int (nI tx.length)) ∧ ∃ wP', k_isP cI h0 aS aZ aV aN aU aD (upd (upd fd 0 (nI 0)) 8 (nI 0)) hh wP' ∧ ∃ wU', k_isU cI aU (([] : List Nat)) wU' ∧ R0 = [wP', wU']) := by
  have hcI := hI
  refine q_ct (cc := cX7_clearBuffer) (maxL := 2) (ret := (some .int)) (own := RX7) (by decide) rfl hZ (Nat.le_of_ble_eq_true rfl) rfl ?_
  intro p9 e9 R s9 m9 args below meth c9 A Q C B
  have hts := C.2.2.2.2.1
  have hinX7 : ∀ w ∈ u_ws RX7 TX7 16, w ∈ wsX7_clearBuffer := by decide +kernel
  have f28 := hts (.fieldLink RX7 28 "SortCasesModel" "thrown" "I") (by decide +kernel)
  have f129 := hts (.fieldLink RX7 129 "SortCasesModel" "length" "I") (by decide +kernel)
  refine q_eqL (L' := [(0, .ref h0)]) rfl ?_
  obtain ⟨htk1, fu1, htr1, rfl⟩ := hU
  have htl1 := htk1.1
  have hUo1 : k_isU cI aU tx [(aU, .inl (cI, 60, .inl fu1))] := ⟨htk1, fu1, htr1, rfl⟩
  refine q_aload_n C dX7_clearBuffer_0 1 0 rfl rfl ?_
  refine q_iconst (v := nI 0) C dX7_clearBuffer_1 2 rfl (by decide) ?_
  obtain rfl := hP
  have hPo2 : k_isP cI h0 aS aZ aV aN aU aD fd hh [(h0, .inr (6, [.int (fd 0), .ref aS, .ref aZ, .ref aV, .int (fd 4), .ref aN, .int (fd 6), .ref aU, .int (fd 8), .int (fd 9), .int (fd 10), .ref aD, .int (fd 12), .int (fd 13), .int (fd 14), .long hh]))] := rfl
  refine q_put (k := 0) (j := 0) (f := 0) C hinX7 tyX7 tyX7_ok nmX7 f28 (fun _ h => h) (by decide) rfl rfl (tyX7_ok 0 (by decide)) rfl rfl dX7_clearBuffer_2 5 rfl rfl rfl (Nat.le_of_ble_eq_true rfl) [[(h0, .inr (6, [.int (nI 0), .ref aS, .ref aZ, .ref aV, .int (fd 4), .ref aN, .int (fd 6), .ref aU, .int (fd 8), .int (fd 9), .int (fd 10), .ref aD, .int (fd 12), .int (fd 13), .int (fd 14), .long hh]))], [(aU, .inl (cI, 60, .inl fu1))]] rfl ?_
  have hPp3 : k_isP cI h0 aS aZ aV aN aU aD (upd fd 0 (nI 0)) hh [(h0, .inr (6, [.int (nI 0), .ref aS, .ref aZ, .ref aV, .int (fd 4), .ref aN, .int (fd 6), .ref aU, .int (fd 8), .int (fd 9), .int (fd 10), .ref aD, .int (fd 12), .int (fd 13), .int (fd 14), .long hh]))] := rfl
  refine q_aload_n C dX7_clearBuffer_5 6 0 rfl rfl ?_
  refine q_get (k := 0) (j := 0) (f := 8) C hinX7 f129 (fun _ h => h) (by decide) rfl dX7_clearBuffer_6 9 rfl rfl rfl rfl ?_
  refine q_eqs (st' := [.int (nI tx.length)]) (by rw [q8]) ?_
  refine q_istore_n C dX7_clearBuffer_9 10 rfl [(1, .int (nI tx.length)), (0, .ref h0)] (by decide) rfl ?_
  refine q_aload_n C dX7_clearBuffer_10 11 1 rfl rfl ?_
  refine q_iconst (v := nI 0) C dX7_clearBuffer_11 12 rfl (by decide) ?_
  refine q_put (k := 0) (j := 0) (f := 8) C hinX7 tyX7 tyX7_ok nmX7 f129 (fun _ h => h) (by decide) rfl rfl (tyX7_ok 8 (by decide)) rfl rfl dX7_clearBuffer_12 15 rfl rfl rfl (Nat.le_of_ble_eq_true rfl) [[(h0, .inr (6, [.int (nI 0), .ref aS, .ref aZ, .ref aV, .int (fd 4), .ref aN, .int (fd 6), .ref aU, .int (nI 0), .int (fd 9), .int (fd 10), .ref aD, .int (fd 12), .int (fd 13), .int (fd 14), .long hh]))], [(aU, .inl (cI, 60, .inl fu1))]] rfl ?_
  have hPp4 : k_isP cI h0 aS aZ aV aN aU aD (upd (upd fd 0 (nI 0)) 8 (nI 0)) hh [(h0, .inr (6, [.int (nI 0), .ref aS, .ref aZ, .ref aV, .int (fd 4), .ref aN, .int (fd 6), .ref aU, .int (nI 0), .int (fd 9), .int (fd 10), .ref aD, .int (fd 12), .int (fd 13), .int (fd 14), .long hh]))] := rfl
  refine q_iload_n C dX7_clearBuffer_15 16 0 rfl rfl ?_
  exact q_iret C B dX7_clearBuffer_16 rfl rfl (fun t0 ht0 => ⟨rfl, _, hPp4, _, ⟨k_Tok_nil, _, fun i hi => absurd hi (Nat.not_lt_zero i), rfl⟩, rfl⟩)

set_option maxHeartbeats 400000 in
set_option maxRecDepth 100000 in
theorem c_X7_undo_a (l : Launch) {D : va_G} {tys : List (ClassId × FieldType)} {Z : (Nat → Prop) → State → Heap → Prop} (hZ : q_St Z) {cI : ClassId} (hI : tys[0]? = some (cI, .int)) (h0 : Nat) (aS : Nat) (aZ : Nat) (aV : Nat) (aN : Nat) (aU : Nat) (aD : Nat) (fd : Nat → Int32) (hh : Int64) (w : va_W) (h : k_isP cI h0 aS aZ aV aN aU aD fd hh w) (h4 : fd 4 = nI 0) : q_Ct l D tys Z yX7_undo wsX7_undo ({ frames := 2, cells := 0, slots := 0, locals := 72 } : Room) 0 0 [.ref h0] [w] (fun v0 R0 _ => v0 = some (.int (nI 0)) ∧ ∃ w', k_isP cI h0 aS aZ aV aN aU aD (upd (upd fd 0 (nI 0)) 0 (nI 1)) hh w' ∧ R0 = [w']) := by
  have hcI := hI
  refine q_ct (cc := cX7_undo) (maxL := 2) (ret := (some .int)) (own := RX7) (by decide) rfl hZ (Nat.le_of_ble_eq_true rfl) rfl ?_
  intro p9 e9 R s9 m9 args below meth c9 A Q C B
  have hts := C.2.2.2.2.1
  have hinX7 : ∀ w ∈ u_ws RX7 TX7 16, w ∈ wsX7_undo := by decide +kernel
  have f28 := hts (.fieldLink RX7 28 "SortCasesModel" "thrown" "I") (by decide +kernel)
  have f51 := hts (.fieldLink RX7 51 "SortCasesModel" "savedMany" "I") (by decide +kernel)
  refine q_eqL (L' := [(0, .ref h0)]) rfl ?_
  refine q_aload_n C dX7_undo_0 1 0 rfl rfl ?_
  refine q_iconst (v := nI 0) C dX7_undo_1 2 rfl (by decide) ?_
  obtain rfl := h
  have hPo1 : k_isP cI h0 aS aZ aV aN aU aD fd hh [(h0, .inr (6, [.int (fd 0), .ref aS, .ref aZ, .ref aV, .int (fd 4), .ref aN, .int (fd 6), .ref aU, .int (fd 8), .int (fd 9), .int (fd 10), .ref aD, .int (fd 12), .int (fd 13), .int (fd 14), .long hh]))] := rfl
  refine q_put (k := 0) (j := 0) (f := 0) C hinX7 tyX7 tyX7_ok nmX7 f28 (fun _ h => h) (by decide) rfl rfl (tyX7_ok 0 (by decide)) rfl rfl dX7_undo_2 5 rfl rfl rfl (Nat.le_of_ble_eq_true rfl) [[(h0, .inr (6, [.int (nI 0), .ref aS, .ref aZ, .ref aV, .int (fd 4), .ref aN, .int (fd 6), .ref aU, .int (fd 8), .int (fd 9), .int (fd 10), .ref aD, .int (fd 12), .int (fd 13), .int (fd 14), .long hh]))]] rfl ?_
  have hPp2 : k_isP cI h0 aS aZ aV aN aU aD (upd fd 0 (nI 0)) hh [(h0, .inr (6, [.int (nI 0), .ref aS, .ref aZ, .ref aV, .int (fd 4), .ref aN, .int (fd 6), .ref aU, .int (fd 8), .int (fd 9), .int (fd 10), .ref aD, .int (fd 12), .int (fd 13), .int (fd 14), .long hh]))] := rfl
  refine q_aload_n C dX7_undo_5 6 0 rfl rfl ?_
  refine q_get (k := 0) (j := 0) (f := 4) C hinX7 f51 (fun _ h => h) (by decide) rfl dX7_undo_6 9 rfl rfl rfl rfl ?_
  refine q_eqs (st' := [.int (nI 0)]) (by rw [h4]) ?_
  refine q_if_ne C dX7_undo_9 12 18 rfl (by decide) (q_eq0 (by omega)) (fun h9 => False.elim (by first | omega | simp_all)) (fun h9 => ?_)
  refine q_aload_n C dX7_undo_12 13 0 rfl rfl ?_
  refine q_iconst (v := nI 1) C dX7_undo_13 14 rfl (by decide) ?_
  refine q_callV (k := 0) (ci := 6) (n := 1) (rest := []) (Rr := []) C rfl (k_isP_recv hPp2) rfl (c_X7_fails l hZ hI h0 aS aZ aV aN aU aD (upd fd 0 (nI 0)) hh ([(h0, .inr (6, [.int (nI 0), .ref aS, .ref aZ, .ref aV, .int (fd 4), .ref aN, .int (fd 6), .ref aU, .int (fd 8), .int (fd 9), .int (fd 10), .ref aD, .int (fd 12), .int (fd 13), .int (fd 14), .long hh]))]) hPp2 (nI 1)) gX7_undo_X7_fails rfl rfl rfl (by decide +kernel) B.1 ⟨Nat.le_of_ble_eq_true rfl, Nat.le_of_ble_eq_true rfl⟩ rfl rfl (Nat.le_of_ble_eq_true rfl) dX7_undo_14 ⟨Nat.le_of_ble_eq_true rfl, Nat.le_of_ble_eq_true rfl⟩ [0] [] (by decide : ([0] ++ ([] : List Nat)).Perm (List.range 1)) rfl rfl 17 rfl (fun v0 R0 t0 ht0 hp0 => ?_)
  obtain ⟨rfl, w_14, hw_14, rfl⟩ := hp0
  refine q_eqs (st' := [.int (nI 0)]) rfl ?_
  refine q_eqR (Rs' := [w_14]) rfl ?_
  exact q_iret C B dX7_undo_17 rfl rfl (fun t0 ht0 => ⟨rfl, _, hw_14, by first | rfl | simp⟩)

set_option maxHeartbeats 400000 in
set_option maxRecDepth 100000 in
theorem c_X7_undo_b (l : Launch) {D : va_G} {tys : List (ClassId × FieldType)} {Z : (Nat → Prop) → State → Heap → Prop} (hZ : q_St Z) {cI : ClassId} (hI : tys[0]? = some (cI, .int)) (h0 : Nat) (aS : Nat) (aZ : Nat) (aV : Nat) (aN : Nat) (aU : Nat) (aD : Nat) (fd : Nat → Int32) (hh : Int64) (wP : va_W) (hP : k_isP cI h0 aS aZ aV aN aU aD fd hh wP) (bx : k_Bx) (at0 : Nat) (ln : List (Nat × Nat)) (sc : Nat → Int32) (wQ : va_W) (hQ : k_isQ cI aS bx at0 ln sc wQ) (sv : List k_S) (wV : va_W) (hV : k_isV cI aV sv wV) (h4 : fd 4 = nI sv.length) (hp : 0 < sv.length) : q_Ct l D tys Z yX7_undo wsX7_undo ({ frames := 2, cells := 0, slots := 0, locals := 72 } : Room) 0 0 [.ref h0] [wP, wQ, wV] (fun v0 R0 _ => v0 = some (.int (nI (sv.length - 1))) ∧ ∃ wP', k_isP cI h0 aS aZ aV aN aU aD (upd (upd fd 0 (nI 0)) 4 (nI (sv.length - 1))) hh wP' ∧ ∃ wQ', k_isQ cI aS ((k_nw sv).1) ((k_nw sv).2.1) ((k_nw sv).2.2.1) ((k_nw sv).2.2.2) wQ' ∧ ∃ wV', k_isV cI aV sv.dropLast wV' ∧ R0 = [wP', wQ', wV']) := by
  have hcI := hI
  refine q_ct (cc := cX7_undo) (maxL := 2) (ret := (some .int)) (own := RX7) (by decide) rfl hZ (Nat.le_of_ble_eq_true rfl) rfl ?_
  intro p9 e9 R s9 m9 args below meth c9 A Q C B
  have hts := C.2.2.2.2.1
  have hinX7 : ∀ w ∈ u_ws RX7 TX7 16, w ∈ wsX7_undo := by decide +kernel
  have f28 := hts (.fieldLink RX7 28 "SortCasesModel" "thrown" "I") (by decide +kernel)
  have f51 := hts (.fieldLink RX7 51 "SortCasesModel" "savedMany" "I") (by decide +kernel)
  have f7 := hts (.fieldLink RX7 7 "SortCasesModel" "s" "[I") (by decide +kernel)
  have f16 := hts (.fieldLink RX7 16 "SortCasesModel" "saved" "[I") (by decide +kernel)
  refine q_eqL (L' := [(0, .ref h0)]) rfl ?_
  obtain ⟨hsl1, fv1, hvr1, rfl⟩ := hV
  have hVo1 : k_isV cI aV sv [(aV, .inl (cI, 2100, .inl fv1))] := ⟨hsl1, fv1, hvr1, rfl⟩
  obtain ⟨hat2, hok2, hlok2, f2, hm2, rfl⟩ := hQ
  have hll2 := hlok2.1
  have hQo2 : k_isQ cI aS bx at0 ln sc [(aS, .inl (cI, 350, .inl f2))] := ⟨hat2, hok2, hlok2, f2, hm2, rfl⟩
  have hRr1 : k_isR cI aS f2 [(aS, .inl (cI, 350, .inl f2))] := rfl
  refine q_aload_n C dX7_undo_0 1 0 rfl rfl ?_
  refine q_iconst (v := nI 0) C dX7_undo_1 2 rfl (by decide) ?_
  obtain rfl := hP
  have hPo3 : k_isP cI h0 aS aZ aV aN aU aD fd hh [(h0, .inr (6, [.int (fd 0), .ref aS, .ref aZ, .ref aV, .int (fd 4), .ref aN, .int (fd 6), .ref aU, .int (fd 8), .int (fd 9), .int (fd 10), .ref aD, .int (fd 12), .int (fd 13), .int (fd 14), .long hh]))] := rfl
  refine q_put (k := 0) (j := 0) (f := 0) C hinX7 tyX7 tyX7_ok nmX7 f28 (fun _ h => h) (by decide) rfl rfl (tyX7_ok 0 (by decide)) rfl rfl dX7_undo_2 5 rfl rfl rfl (Nat.le_of_ble_eq_true rfl) [[(h0, .inr (6, [.int (nI 0), .ref aS, .ref aZ, .ref aV, .int (fd 4), .ref aN, .int (fd 6), .ref aU, .int (fd 8), .int (fd 9), .int (fd 10), .ref aD, .int (fd 12), .int (fd 13), .int (fd 14), .long hh]))], [(aS, .inl (cI, 350, .inl f2))], [(aV, .inl (cI, 2100, .inl fv1))]] rfl ?_
  have hPp4 : k_isP cI h0 aS aZ aV aN aU aD (upd fd 0 (nI 0)) hh [(h0, .inr (6, [.int (nI 0), .ref aS, .ref aZ, .ref aV, .int (fd 4), .ref aN, .int (fd 6), .ref aU, .int (fd 8), .int (fd 9), .int (fd 10), .ref aD, .int (fd 12), .int (fd 13), .int (fd 14), .long hh]))] := rfl
  refine q_aload_n C dX7_undo_5 6 0 rfl rfl ?_
  refine q_get (k := 0) (j := 0) (f := 4) C hinX7 f51 (fun _ h => h) (by decide) rfl dX7_undo_6 9 rfl rfl rfl rfl ?_
  refine q_eqs (st' := [.int (nI sv.length)]) (by rw [h4]) ?_
  refine q_if_ne C dX7_undo_9 12 18 rfl (by decide) (q_eq0 (by omega)) (fun h9 => ?_) (fun h9 => False.elim (by first | omega | simp_all))
  refine q_aload_n C dX7_undo_18 19 0 rfl rfl ?_
  refine q_dup C dX7_undo_19 20 rfl rfl ?_
  refine q_get (k := 0) (j := 0) (f := 4) C hinX7 f51 (fun _ h => h) (by decide) rfl dX7_undo_20 23 rfl rfl rfl rfl ?_
  refine q_eqs (st' := [.int (nI sv.length), .ref h0]) (by rw [h4]) ?_
  refine q_iconst (v := nI 1) C dX7_undo_23 24 rfl (by decide) ?_
  refine q_isub (v := nI (sv.length - 1)) C dX7_undo_24 25 rfl (q_nsub (by omega) (by omega)) ?_
  refine q_put (k := 0) (j := 0) (f := 4) C hinX7 tyX7 tyX7_ok nmX7 f51 (fun _ h => h) (by decide) rfl rfl (tyX7_ok 4 (by decide)) rfl rfl dX7_undo_25 28 rfl rfl rfl (Nat.le_of_ble_eq_true rfl) [[(h0, .inr (6, [.int (nI 0), .ref aS, .ref aZ, .ref aV, .int (nI (sv.length - 1)), .ref aN, .int (fd 6), .ref aU, .int (fd 8), .int (fd 9), .int (fd 10), .ref aD, .int (fd 12), .int (fd 13), .int (fd 14), .long hh]))], [(aS, .inl (cI, 350, .inl f2))], [(aV, .inl (cI, 2100, .inl fv1))]] rfl ?_
  have hPp5 : k_isP cI h0 aS aZ aV aN aU aD (upd (upd fd 0 (nI 0)) 4 (nI (sv.length - 1))) hh [(h0, .inr (6, [.int (nI 0), .ref aS, .ref aZ, .ref aV, .int (nI (sv.length - 1)), .ref aN, .int (fd 6), .ref aU, .int (fd 8), .int (fd 9), .int (fd 10), .ref aD, .int (fd 12), .int (fd 13), .int (fd 14), .long hh]))] := rfl
  refine q_iconst (v := nI 0) C dX7_undo_28 29 rfl (by decide) ?_
  refine q_istore_n C dX7_undo_29 30 rfl [(1, .int (nI 0)), (0, .ref h0)] (by decide) rfl ?_
  have lp : ∀ (kk : Nat) (i : Nat) (g : Nat → Int32), 350 - i < kk → ∀ (hi : i ≤ 350), ∀ (hg : ∀ q, q < i → g q = fv1 (350 * (sv.length - 1) + q)), q_V p9 l e9 R s9 m9 args below meth c9 D A 2 Q 0 0 30 [(1, .int (nI i)), (0, .ref h0)] [] [[(h0, .inr (6, [.int (nI 0), .ref aS, .ref aZ, .ref aV, .int (nI (sv.length - 1)), .ref aN, .int (fd 6), .ref aU, .int (fd 8), .int (fd 9), .int (fd 10), .ref aD, .int (fd 12), .int (fd 13), .int (fd 14), .long hh]))], [(aS, .inl (cI, 350, .inl g))], [(aV, .inl (cI, 2100, .inl fv1))]] := by
    intro kk
    induction kk with
    | zero => intro i g hkk; exact absurd hkk (Nat.not_lt_zero _)
    | succ kk ih_lp =>
      intro i g hkk hi hg
      refine q_iload_n C dX7_undo_30 31 0 rfl rfl ?_
      refine q_sipush (v := nI 350) C dX7_undo_31 34 rfl (by decide) ?_
      refine q_icmp_ge C dX7_undo_34 37 64 rfl (by decide) (nI_leI (by omega) (by omega)) (fun h34 => ?_) (fun h34 => ?_)
      · refine q_aload_n C dX7_undo_64 65 1 rfl rfl ?_
        refine q_get (k := 0) (j := 0) (f := 4) C hinX7 f51 (fun _ h => h) (by decide) rfl dX7_undo_65 68 rfl rfl rfl rfl ?_
        obtain ⟨hS1, hS2⟩ := hvr1 (sv.length - 1) (k_nw sv) (k_nw_at hp)
        exact q_iret C B dX7_undo_68 rfl rfl (fun t0 ht0 => ⟨rfl, _, hPp5, _, ⟨hS1.1, hS1.2.1, hS1.2.2, _, k_MR_ext hS1 hS2 (fun q hq => hg q (by omega)), rfl⟩, _, ⟨by rw [List.length_dropLast]; omega, _, k_VR_pop hvr1, rfl⟩, rfl⟩)
      · refine q_aload_n C dX7_undo_37 38 1 rfl rfl ?_
        refine q_get (k := 0) (j := 0) (f := 1) C hinX7 f7 (fun _ h => h) (by decide) rfl dX7_undo_38 41 rfl rfl rfl rfl ?_
        refine q_iload_n C dX7_undo_41 42 0 rfl rfl ?_
        refine q_aload_n C dX7_undo_42 43 1 rfl rfl ?_
        refine q_get (k := 0) (j := 0) (f := 3) C hinX7 f16 (fun _ h => h) (by decide) rfl dX7_undo_43 46 rfl rfl rfl rfl ?_
        refine q_sipush (v := nI 350) C dX7_undo_46 49 rfl (by decide) ?_
        refine q_aload_n C dX7_undo_49 50 1 rfl rfl ?_
        refine q_get (k := 0) (j := 0) (f := 4) C hinX7 f51 (fun _ h => h) (by decide) rfl dX7_undo_50 53 rfl rfl rfl rfl ?_
        refine q_imul (v := nI (350 * sv.length - 350)) C dX7_undo_53 54 rfl (q_nmul (by omega)) ?_
        refine q_iload_n C dX7_undo_54 55 0 rfl rfl ?_
        refine q_iadd (v := nI (350 * sv.length + i - 350)) C dX7_undo_55 56 rfl (q_nadd (by omega)) ?_
        refine q_iald (k := 2) (j := 0) (v := fv1 (350 * (sv.length - 1) + i)) C dX7_undo_56 57 rfl rfl rfl hcI (350 * sv.length + i - 350) rfl (by omega) (by decide) (by rw [show 350 * (sv.length - 1) + i = 350 * sv.length + i - 350 by omega]) ?_
        refine q_iast (k := 1) (j := 0) C dX7_undo_57 58 rfl rfl rfl hcI i rfl (by omega) (by decide) [[(h0, .inr (6, [.int (nI 0), .ref aS, .ref aZ, .ref aV, .int (nI (sv.length - 1)), .ref aN, .int (fd 6), .ref aU, .int (fd 8), .int (fd 9), .int (fd 10), .ref aD, .int (fd 12), .int (fd 13), .int (fd 14), .long hh]))], [(aS, .inl (cI, 350, .inl (upd g i (fv1 (350 * (sv.length - 1) + i)))))], [(aV, .inl (cI, 2100, .inl fv1))]] rfl ?_
        have hRs6 : k_isR cI aS (upd g i (fv1 (350 * (sv.length - 1) + i))) [(aS, .inl (cI, 350, .inl (upd g i (fv1 (350 * (sv.length - 1) + i)))))] := rfl
        refine q_iinc (v := nI (i + 1)) C dX7_undo_58 61 0 rfl rfl (q_ninc1 (by omega)) [(1, .int (nI (i + 1))), (0, .ref h0)] (by decide) rfl ?_
        refine q_goto C dX7_undo_61 30 (by decide) ?_
        refine q_sub (L' := [(1, .int (nI (i + 1))), (0, .ref h0)]) [0, 1] rfl ?_
        exact ih_lp (i + 1) (upd g i (fv1 (350 * (sv.length - 1) + i))) (by omega) (by omega) (fun q hq => (Decidable.em (q = i)).elim (fun e => by subst e; rw [pk_us]) (fun e => by rw [pk_un e]; exact hg q (by omega)))
  refine q_sub (L' := [(1, .int (nI 0)), (0, .ref h0)]) [0, 1] rfl ?_
  exact lp _ 0 f2 (Nat.lt_succ_self _) (by omega) (fun q hq => absurd hq (Nat.not_lt_zero q))

set_option maxHeartbeats 400000 in
set_option maxRecDepth 100000 in
theorem c_X7_keep (l : Launch) {D : va_G} {tys : List (ClassId × FieldType)} {Z : (Nat → Prop) → State → Heap → Prop} (hZ : q_St Z) {cI : ClassId} (hI : tys[0]? = some (cI, .int)) (h0 : Nat) (aS : Nat) (aZ : Nat) (aV : Nat) (aN : Nat) (aU : Nat) (aD : Nat) (fd : Nat → Int32) (hh : Int64) (wP : va_W) (hP : k_isP cI h0 aS aZ aV aN aU aD fd hh wP) (bx : k_Bx) (at0 : Nat) (ln : List (Nat × Nat)) (sc : Nat → Int32) (wQ : va_W) (hQ : k_isQ cI aS bx at0 ln sc wQ) (nbx : k_Bx) (nat0 : Nat) (nln : List (Nat × Nat)) (nsc : Nat → Int32) (nw : va_W) (nh : k_isQ cI aN nbx nat0 nln nsc nw) : q_Ct l D tys Z yX7_keep wsX7_keep ({ frames := 1, cells := 0, slots := 0, locals := 42 } : Room) 0 0 [.ref h0] [wP, wQ, nw] (fun v0 R0 _ => v0 = some (.int (nI ln.length)) ∧ ∃ wP', k_isP cI h0 aS aZ aV aN aU aD (upd (upd fd 0 (nI 0)) 6 (nI 1)) hh wP' ∧ ∃ nw', k_isQ cI aN bx at0 ln sc nw' ∧ R0 = [wP', wQ, nw']) := by
  have hcI := hI
  refine q_ct (cc := cX7_keep) (maxL := 2) (ret := (some .int)) (own := RX7) (by decide) rfl hZ (Nat.le_of_ble_eq_true rfl) rfl ?_
  intro p9 e9 R s9 m9 args below meth c9 A Q C B
  have hts := C.2.2.2.2.1
  have hinX7 : ∀ w ∈ u_ws RX7 TX7 16, w ∈ wsX7_keep := by decide +kernel
  have f28 := hts (.fieldLink RX7 28 "SortCasesModel" "thrown" "I") (by decide +kernel)
  have f186 := hts (.fieldLink RX7 186 "SortCasesModel" "hasSnapshot" "Z") (by decide +kernel)
  have f7 := hts (.fieldLink RX7 7 "SortCasesModel" "s" "[I") (by decide +kernel)
  have f19 := hts (.fieldLink RX7 19 "SortCasesModel" "snapshot" "[I") (by decide +kernel)
  refine q_eqL (L' := [(0, .ref h0)]) rfl ?_
  obtain ⟨hat1, hok1, hlok1, f1, hm1, rfl⟩ := hQ
  have hll1 := hlok1.1
  have hQo1 : k_isQ cI aS bx at0 ln sc [(aS, .inl (cI, 350, .inl f1))] := ⟨hat1, hok1, hlok1, f1, hm1, rfl⟩
  obtain ⟨hat2, hok2, hlok2, f2, hm2, rfl⟩ := nh
  have hll2 := hlok2.1
  have hQo2 : k_isQ cI aN nbx nat0 nln nsc [(aN, .inl (cI, 350, .inl f2))] := ⟨hat2, hok2, hlok2, f2, hm2, rfl⟩
  have hRr1 : k_isR cI aN f2 [(aN, .inl (cI, 350, .inl f2))] := rfl
  refine q_aload_n C dX7_keep_0 1 0 rfl rfl ?_
  refine q_iconst (v := nI 0) C dX7_keep_1 2 rfl (by decide) ?_
  obtain rfl := hP
  have hPo3 : k_isP cI h0 aS aZ aV aN aU aD fd hh [(h0, .inr (6, [.int (fd 0), .ref aS, .ref aZ, .ref aV, .int (fd 4), .ref aN, .int (fd 6), .ref aU, .int (fd 8), .int (fd 9), .int (fd 10), .ref aD, .int (fd 12), .int (fd 13), .int (fd 14), .long hh]))] := rfl
  refine q_put (k := 0) (j := 0) (f := 0) C hinX7 tyX7 tyX7_ok nmX7 f28 (fun _ h => h) (by decide) rfl rfl (tyX7_ok 0 (by decide)) rfl rfl dX7_keep_2 5 rfl rfl rfl (Nat.le_of_ble_eq_true rfl) [[(h0, .inr (6, [.int (nI 0), .ref aS, .ref aZ, .ref aV, .int (fd 4), .ref aN, .int (fd 6), .ref aU, .int (fd 8), .int (fd 9), .int (fd 10), .ref aD, .int (fd 12), .int (fd 13), .int (fd 14), .long hh]))], [(aS, .inl (cI, 350, .inl f1))], [(aN, .inl (cI, 350, .inl f2))]] rfl ?_
  have hPp4 : k_isP cI h0 aS aZ aV aN aU aD (upd fd 0 (nI 0)) hh [(h0, .inr (6, [.int (nI 0), .ref aS, .ref aZ, .ref aV, .int (fd 4), .ref aN, .int (fd 6), .ref aU, .int (fd 8), .int (fd 9), .int (fd 10), .ref aD, .int (fd 12), .int (fd 13), .int (fd 14), .long hh]))] := rfl
  refine q_iconst (v := nI 0) C dX7_keep_5 6 rfl (by decide) ?_
  refine q_istore_n C dX7_keep_6 7 rfl [(1, .int (nI 0)), (0, .ref h0)] (by decide) rfl ?_
  have lp : ∀ (kk : Nat) (i : Nat) (g : Nat → Int32), 350 - i < kk → ∀ (hi : i ≤ 350), ∀ (hg : ∀ q, q < i → g q = f1 q), q_V p9 l e9 R s9 m9 args below meth c9 D A 2 Q 0 0 7 [(1, .int (nI i)), (0, .ref h0)] [] [[(h0, .inr (6, [.int (nI 0), .ref aS, .ref aZ, .ref aV, .int (fd 4), .ref aN, .int (fd 6), .ref aU, .int (fd 8), .int (fd 9), .int (fd 10), .ref aD, .int (fd 12), .int (fd 13), .int (fd 14), .long hh]))], [(aS, .inl (cI, 350, .inl f1))], [(aN, .inl (cI, 350, .inl g))]] := by
    intro kk
    induction kk with
    | zero => intro i g hkk; exact absurd hkk (Nat.not_lt_zero _)
    | succ kk ih_lp =>
      intro i g hkk hi hg
      refine q_iload_n C dX7_keep_7 8 0 rfl rfl ?_
      refine q_sipush (v := nI 350) C dX7_keep_8 11 rfl (by decide) ?_
      refine q_icmp_ge C dX7_keep_11 14 32 rfl (by decide) (nI_leI (by omega) (by omega)) (fun h11 => ?_) (fun h11 => ?_)
      · refine q_aload_n C dX7_keep_32 33 1 rfl rfl ?_
        refine q_iconst (v := nI 1) C dX7_keep_33 34 rfl (by decide) ?_
        refine q_put (k := 0) (j := 0) (f := 6) C hinX7 tyX7 tyX7_ok nmX7 f186 (fun _ h => h) (by decide) rfl rfl (tyX7_ok 6 (by decide)) (by decide) rfl dX7_keep_34 37 rfl rfl rfl (Nat.le_of_ble_eq_true rfl) [[(h0, .inr (6, [.int (nI 0), .ref aS, .ref aZ, .ref aV, .int (fd 4), .ref aN, .int (nI 1), .ref aU, .int (fd 8), .int (fd 9), .int (fd 10), .ref aD, .int (fd 12), .int (fd 13), .int (fd 14), .long hh]))], [(aS, .inl (cI, 350, .inl f1))], [(aN, .inl (cI, 350, .inl g))]] rfl ?_
        have hPp5 : k_isP cI h0 aS aZ aV aN aU aD (upd (upd fd 0 (nI 0)) 6 (nI 1)) hh [(h0, .inr (6, [.int (nI 0), .ref aS, .ref aZ, .ref aV, .int (fd 4), .ref aN, .int (nI 1), .ref aU, .int (fd 8), .int (fd 9), .int (fd 10), .ref aD, .int (fd 12), .int (fd 13), .int (fd 14), .long hh]))] := rfl
        refine q_aload_n C dX7_keep_37 38 1 rfl rfl ?_
        refine q_get (k := 0) (j := 0) (f := 1) C hinX7 f7 (fun _ h => h) (by decide) rfl dX7_keep_38 41 rfl rfl rfl rfl ?_
        refine q_bipush (v := nI 12) C dX7_keep_41 43 rfl (by decide) ?_
        refine q_iald (k := 1) (j := 0) (v := nI ln.length) C dX7_keep_43 44 rfl rfl rfl hcI 12 rfl (by omega) (by decide) (hm1.2.2.1) ?_
        exact q_iret C B dX7_keep_44 rfl rfl (fun t0 ht0 => ⟨rfl, _, hPp5, _, ⟨hat1, hok1, hlok1, _, k_MR_cong hok1 hlok1 hm1 (fun q hq => hg q (by omega)), rfl⟩, rfl⟩)
      · refine q_aload_n C dX7_keep_14 15 1 rfl rfl ?_
        refine q_get (k := 0) (j := 0) (f := 5) C hinX7 f19 (fun _ h => h) (by decide) rfl dX7_keep_15 18 rfl rfl rfl rfl ?_
        refine q_iload_n C dX7_keep_18 19 0 rfl rfl ?_
        refine q_aload_n C dX7_keep_19 20 1 rfl rfl ?_
        refine q_get (k := 0) (j := 0) (f := 1) C hinX7 f7 (fun _ h => h) (by decide) rfl dX7_keep_20 23 rfl rfl rfl rfl ?_
        refine q_iload_n C dX7_keep_23 24 0 rfl rfl ?_
        refine q_iald (k := 1) (j := 0) (v := f1 i) C dX7_keep_24 25 rfl rfl rfl hcI i rfl (by omega) (by decide) rfl ?_
        refine q_iast (k := 2) (j := 0) C dX7_keep_25 26 rfl rfl rfl hcI i rfl (by omega) (by decide) [[(h0, .inr (6, [.int (nI 0), .ref aS, .ref aZ, .ref aV, .int (fd 4), .ref aN, .int (fd 6), .ref aU, .int (fd 8), .int (fd 9), .int (fd 10), .ref aD, .int (fd 12), .int (fd 13), .int (fd 14), .long hh]))], [(aS, .inl (cI, 350, .inl f1))], [(aN, .inl (cI, 350, .inl (upd g i (f1 i))))]] rfl ?_
        have hRs6 : k_isR cI aN (upd g i (f1 i)) [(aN, .inl (cI, 350, .inl (upd g i (f1 i))))] := rfl
        refine q_iinc (v := nI (i + 1)) C dX7_keep_26 29 0 rfl rfl (q_ninc1 (by omega)) [(1, .int (nI (i + 1))), (0, .ref h0)] (by decide) rfl ?_
        refine q_goto C dX7_keep_29 7 (by decide) ?_
        refine q_sub (L' := [(1, .int (nI (i + 1))), (0, .ref h0)]) [0, 1] rfl ?_
        exact ih_lp (i + 1) (upd g i (f1 i)) (by omega) (by omega) (fun q hq => (Decidable.em (q = i)).elim (fun e => by subst e; rw [pk_us]) (fun e => by rw [pk_un e]; exact hg q (by omega)))
  refine q_sub (L' := [(1, .int (nI 0)), (0, .ref h0)]) [0, 1] rfl ?_
  exact lp _ 0 f2 (Nat.lt_succ_self _) (by omega) (fun q hq => absurd hq (Nat.not_lt_zero q))

set_option maxHeartbeats 400000 in
set_option maxRecDepth 100000 in
theorem c_X7_restore_a (l : Launch) {D : va_G} {tys : List (ClassId × FieldType)} {Z : (Nat → Prop) → State → Heap → Prop} (hZ : q_St Z) {cI : ClassId} (hI : tys[0]? = some (cI, .int)) (h0 : Nat) (aS : Nat) (aZ : Nat) (aV : Nat) (aN : Nat) (aU : Nat) (aD : Nat) (fd : Nat → Int32) (hh : Int64) (w : va_W) (h : k_isP cI h0 aS aZ aV aN aU aD fd hh w) (h6 : fd 6 = nI 0) : q_Ct l D tys Z yX7_restore wsX7_restore ({ frames := 2, cells := 0, slots := 0, locals := 72 } : Room) 0 0 [.ref h0] [w] (fun v0 R0 _ => v0 = some (.int (nI 0)) ∧ ∃ w', k_isP cI h0 aS aZ aV aN aU aD (upd (upd fd 0 (nI 0)) 0 (nI 1)) hh w' ∧ R0 = [w']) := by
  have hcI := hI
  refine q_ct (cc := cX7_restore) (maxL := 2) (ret := (some .int)) (own := RX7) (by decide) rfl hZ (Nat.le_of_ble_eq_true rfl) rfl ?_
  intro p9 e9 R s9 m9 args below meth c9 A Q C B
  have hts := C.2.2.2.2.1
  have hinX7 : ∀ w ∈ u_ws RX7 TX7 16, w ∈ wsX7_restore := by decide +kernel
  have f28 := hts (.fieldLink RX7 28 "SortCasesModel" "thrown" "I") (by decide +kernel)
  have f186 := hts (.fieldLink RX7 186 "SortCasesModel" "hasSnapshot" "Z") (by decide +kernel)
  refine q_eqL (L' := [(0, .ref h0)]) rfl ?_
  refine q_aload_n C dX7_restore_0 1 0 rfl rfl ?_
  refine q_iconst (v := nI 0) C dX7_restore_1 2 rfl (by decide) ?_
  obtain rfl := h
  have hPo1 : k_isP cI h0 aS aZ aV aN aU aD fd hh [(h0, .inr (6, [.int (fd 0), .ref aS, .ref aZ, .ref aV, .int (fd 4), .ref aN, .int (fd 6), .ref aU, .int (fd 8), .int (fd 9), .int (fd 10), .ref aD, .int (fd 12), .int (fd 13), .int (fd 14), .long hh]))] := rfl
  refine q_put (k := 0) (j := 0) (f := 0) C hinX7 tyX7 tyX7_ok nmX7 f28 (fun _ h => h) (by decide) rfl rfl (tyX7_ok 0 (by decide)) rfl rfl dX7_restore_2 5 rfl rfl rfl (Nat.le_of_ble_eq_true rfl) [[(h0, .inr (6, [.int (nI 0), .ref aS, .ref aZ, .ref aV, .int (fd 4), .ref aN, .int (fd 6), .ref aU, .int (fd 8), .int (fd 9), .int (fd 10), .ref aD, .int (fd 12), .int (fd 13), .int (fd 14), .long hh]))]] rfl ?_
  have hPp2 : k_isP cI h0 aS aZ aV aN aU aD (upd fd 0 (nI 0)) hh [(h0, .inr (6, [.int (nI 0), .ref aS, .ref aZ, .ref aV, .int (fd 4), .ref aN, .int (fd 6), .ref aU, .int (fd 8), .int (fd 9), .int (fd 10), .ref aD, .int (fd 12), .int (fd 13), .int (fd 14), .long hh]))] := rfl
  refine q_aload_n C dX7_restore_5 6 0 rfl rfl ?_
  refine q_get (k := 0) (j := 0) (f := 6) C hinX7 f186 (fun _ h => h) (by decide) rfl dX7_restore_6 9 rfl rfl rfl rfl ?_
  refine q_eqs (st' := [.int (nI 0)]) (by rw [h6]) ?_
  refine q_if_ne C dX7_restore_9 12 18 rfl (by decide) (q_eq0 (by omega)) (fun h9 => False.elim (by first | omega | simp_all)) (fun h9 => ?_)
  refine q_aload_n C dX7_restore_12 13 0 rfl rfl ?_
  refine q_iconst (v := nI 1) C dX7_restore_13 14 rfl (by decide) ?_
  refine q_callV (k := 0) (ci := 6) (n := 1) (rest := []) (Rr := []) C rfl (k_isP_recv hPp2) rfl (c_X7_fails l hZ hI h0 aS aZ aV aN aU aD (upd fd 0 (nI 0)) hh ([(h0, .inr (6, [.int (nI 0), .ref aS, .ref aZ, .ref aV, .int (fd 4), .ref aN, .int (fd 6), .ref aU, .int (fd 8), .int (fd 9), .int (fd 10), .ref aD, .int (fd 12), .int (fd 13), .int (fd 14), .long hh]))]) hPp2 (nI 1)) gX7_restore_X7_fails rfl rfl rfl (by decide +kernel) B.1 ⟨Nat.le_of_ble_eq_true rfl, Nat.le_of_ble_eq_true rfl⟩ rfl rfl (Nat.le_of_ble_eq_true rfl) dX7_restore_14 ⟨Nat.le_of_ble_eq_true rfl, Nat.le_of_ble_eq_true rfl⟩ [0] [] (by decide : ([0] ++ ([] : List Nat)).Perm (List.range 1)) rfl rfl 17 rfl (fun v0 R0 t0 ht0 hp0 => ?_)
  obtain ⟨rfl, w_14, hw_14, rfl⟩ := hp0
  refine q_eqs (st' := [.int (nI 0)]) rfl ?_
  refine q_eqR (Rs' := [w_14]) rfl ?_
  exact q_iret C B dX7_restore_17 rfl rfl (fun t0 ht0 => ⟨rfl, _, hw_14, by first | rfl | simp⟩)

set_option maxHeartbeats 400000 in
set_option maxRecDepth 100000 in
theorem c_X7_restore_b (l : Launch) {D : va_G} {tys : List (ClassId × FieldType)} {Z : (Nat → Prop) → State → Heap → Prop} (hZ : q_St Z) {cI : ClassId} (hI : tys[0]? = some (cI, .int)) (h0 : Nat) (aS : Nat) (aZ : Nat) (aV : Nat) (aN : Nat) (aU : Nat) (aD : Nat) (fd : Nat → Int32) (hh : Int64) (wP : va_W) (hP : k_isP cI h0 aS aZ aV aN aU aD fd hh wP) (bx : k_Bx) (at0 : Nat) (ln : List (Nat × Nat)) (sc : Nat → Int32) (wQ : va_W) (hQ : k_isQ cI aS bx at0 ln sc wQ) (sv : List k_S) (wV : va_W) (hV : k_isV cI aV sv wV) (nbx : k_Bx) (nat0 : Nat) (nln : List (Nat × Nat)) (nsc : Nat → Int32) (nw : va_W) (nh : k_isQ cI aN nbx nat0 nln nsc nw) (h4 : fd 4 = nI sv.length) (h6 : fd 6 = nI 1) : q_Ct l D tys Z yX7_restore wsX7_restore ({ frames := 2, cells := 0, slots := 0, locals := 72 } : Room) 0 0 [.ref h0] [wP, wQ, wV, nw] (fun v0 R0 _ => v0 = some (.int (nI nln.length)) ∧ ∃ wP', k_isP cI h0 aS aZ aV aN aU aD (upd (upd fd 0 (nI 0)) 4 (nI (k_sav sv (bx, at0, ln, sc)).length)) hh wP' ∧ ∃ wQ', k_isQ cI aS nbx nat0 nln nsc wQ' ∧ ∃ wV', k_isV cI aV (k_sav sv (bx, at0, ln, sc)) wV' ∧ R0 = [wP', wQ', wV', nw]) := by
  have hcI := hI
  refine q_ct (cc := cX7_restore) (maxL := 2) (ret := (some .int)) (own := RX7) (by decide) rfl hZ (Nat.le_of_ble_eq_true rfl) rfl ?_
  intro p9 e9 R s9 m9 args below meth c9 A Q C B
  have hts := C.2.2.2.2.1
  have hinX7 : ∀ w ∈ u_ws RX7 TX7 16, w ∈ wsX7_restore := by decide +kernel
  have f28 := hts (.fieldLink RX7 28 "SortCasesModel" "thrown" "I") (by decide +kernel)
  have f186 := hts (.fieldLink RX7 186 "SortCasesModel" "hasSnapshot" "Z") (by decide +kernel)
  have f7 := hts (.fieldLink RX7 7 "SortCasesModel" "s" "[I") (by decide +kernel)
  have f19 := hts (.fieldLink RX7 19 "SortCasesModel" "snapshot" "[I") (by decide +kernel)
  refine q_eqL (L' := [(0, .ref h0)]) rfl ?_
  refine q_aload_n C dX7_restore_0 1 0 rfl rfl ?_
  refine q_iconst (v := nI 0) C dX7_restore_1 2 rfl (by decide) ?_
  obtain rfl := hP
  have hPo1 : k_isP cI h0 aS aZ aV aN aU aD fd hh [(h0, .inr (6, [.int (fd 0), .ref aS, .ref aZ, .ref aV, .int (fd 4), .ref aN, .int (fd 6), .ref aU, .int (fd 8), .int (fd 9), .int (fd 10), .ref aD, .int (fd 12), .int (fd 13), .int (fd 14), .long hh]))] := rfl
  refine q_put (k := 0) (j := 0) (f := 0) C hinX7 tyX7 tyX7_ok nmX7 f28 (fun _ h => h) (by decide) rfl rfl (tyX7_ok 0 (by decide)) rfl rfl dX7_restore_2 5 rfl rfl rfl (Nat.le_of_ble_eq_true rfl) [[(h0, .inr (6, [.int (nI 0), .ref aS, .ref aZ, .ref aV, .int (fd 4), .ref aN, .int (fd 6), .ref aU, .int (fd 8), .int (fd 9), .int (fd 10), .ref aD, .int (fd 12), .int (fd 13), .int (fd 14), .long hh]))], wQ, wV, nw] rfl ?_
  have hPp2 : k_isP cI h0 aS aZ aV aN aU aD (upd fd 0 (nI 0)) hh [(h0, .inr (6, [.int (nI 0), .ref aS, .ref aZ, .ref aV, .int (fd 4), .ref aN, .int (fd 6), .ref aU, .int (fd 8), .int (fd 9), .int (fd 10), .ref aD, .int (fd 12), .int (fd 13), .int (fd 14), .long hh]))] := rfl
  refine q_aload_n C dX7_restore_5 6 0 rfl rfl ?_
  refine q_get (k := 0) (j := 0) (f := 6) C hinX7 f186 (fun _ h => h) (by decide) rfl dX7_restore_6 9 rfl rfl rfl rfl ?_
  refine q_eqs (st' := [.int (nI 1)]) (by rw [h6]) ?_
  refine q_if_ne C dX7_restore_9 12 18 rfl (by decide) (q_eq0 (by omega)) (fun h9 => ?_) (fun h9 => False.elim (by first | omega | simp_all))
  refine q_aload_n C dX7_restore_18 19 0 rfl rfl ?_
  refine q_callV (k := 0) (ci := 6) (n := 0) (rest := []) (Rr := [nw]) C rfl (k_isP_recv hPp2) rfl (c_X7_saves l hZ hI h0 aS aZ aV aN aU aD (upd fd 0 (nI 0)) hh ([(h0, .inr (6, [.int (nI 0), .ref aS, .ref aZ, .ref aV, .int (fd 4), .ref aN, .int (fd 6), .ref aU, .int (fd 8), .int (fd 9), .int (fd 10), .ref aD, .int (fd 12), .int (fd 13), .int (fd 14), .long hh]))]) hPp2 bx at0 ln sc wQ hQ sv wV hV h4) gX7_restore_X7_saves rfl rfl rfl (by decide +kernel) B.1 ⟨Nat.le_of_ble_eq_true rfl, Nat.le_of_ble_eq_true rfl⟩ rfl rfl (Nat.le_of_ble_eq_true rfl) dX7_restore_19 ⟨Nat.le_of_ble_eq_true rfl, Nat.le_of_ble_eq_true rfl⟩ [0, 1, 2] [3] (by decide : ([0, 1, 2] ++ ([3] : List Nat)).Perm (List.range 4)) rfl rfl 22 rfl (fun v0 R0 t0 ht0 hp0 => ?_)
  obtain ⟨rfl, wP_19, hwP_19, wV_19, hwV_19, rfl⟩ := hp0
  refine q_eqs (st' := []) rfl ?_
  refine q_eqR (Rs' := [wP_19, wQ, wV_19, nw]) rfl ?_
  obtain ⟨hat3, hok3, hlok3, f3, hm3, rfl⟩ := nh
  have hll3 := hlok3.1
  have hQo3 : k_isQ cI aN nbx nat0 nln nsc [(aN, .inl (cI, 350, .inl f3))] := ⟨hat3, hok3, hlok3, f3, hm3, rfl⟩
  obtain ⟨hat4, hok4, hlok4, f4, hm4, rfl⟩ := hQ
  have hll4 := hlok4.1
  have hQo4 : k_isQ cI aS bx at0 ln sc [(aS, .inl (cI, 350, .inl f4))] := ⟨hat4, hok4, hlok4, f4, hm4, rfl⟩
  have hRr1 : k_isR cI aS f4 [(aS, .inl (cI, 350, .inl f4))] := rfl
  refine q_iconst (v := nI 0) C dX7_restore_22 23 rfl (by decide) ?_
  refine q_istore_n C dX7_restore_23 24 rfl [(1, .int (nI 0)), (0, .ref h0)] (by decide) rfl ?_
  have lp : ∀ (kk : Nat) (i : Nat) (g : Nat → Int32), 350 - i < kk → ∀ (hi : i ≤ 350), ∀ (hg : ∀ q, q < i → g q = f3 q), q_V p9 l e9 R s9 m9 args below meth c9 D A 2 Q 0 0 24 [(1, .int (nI i)), (0, .ref h0)] [] [wP_19, [(aS, .inl (cI, 350, .inl g))], wV_19, [(aN, .inl (cI, 350, .inl f3))]] := by
    intro kk
    induction kk with
    | zero => intro i g hkk; exact absurd hkk (Nat.not_lt_zero _)
    | succ kk ih_lp =>
      intro i g hkk hi hg
      refine q_iload_n C dX7_restore_24 25 0 rfl rfl ?_
      refine q_sipush (v := nI 350) C dX7_restore_25 28 rfl (by decide) ?_
      refine q_icmp_ge C dX7_restore_28 31 49 rfl (by decide) (nI_leI (by omega) (by omega)) (fun h28 => ?_) (fun h28 => ?_)
      · have hQa2 : k_isQ cI aS nbx nat0 nln nsc [(aS, .inl (cI, 350, .inl g))] := ⟨hat3, hok3, hlok3, _, k_MR_cong hok3 hlok3 hm3 (fun q hq => hg q (by omega)), rfl⟩
        obtain ⟨wA2, eA2⟩ : ∃ w : va_W, w = [(aS, .inl (cI, 350, .inl g))] := ⟨_, rfl⟩
        rw [← eA2] at hQa2
        refine q_eqR (Rs' := [wP_19, wA2, wV_19, [(aN, .inl (cI, 350, .inl f3))]]) (by rw [eA2]) ?_
        refine q_aload_n C dX7_restore_49 50 1 rfl rfl ?_
        obtain rfl := hwP_19
        have hPo5 : k_isP cI h0 aS aZ aV aN aU aD (upd (upd fd 0 (nI 0)) 4 (nI (k_sav sv (bx, at0, ln, sc)).length)) hh [(h0, .inr (6, [.int (nI 0), .ref aS, .ref aZ, .ref aV, .int (nI (((k_sav sv (bx, at0, ln, sc)).length))), .ref aN, .int (fd 6), .ref aU, .int (fd 8), .int (fd 9), .int (fd 10), .ref aD, .int (fd 12), .int (fd 13), .int (fd 14), .long hh]))] := rfl
        refine q_get (k := 0) (j := 0) (f := 1) C hinX7 f7 (fun _ h => h) (by decide) rfl dX7_restore_50 53 rfl rfl rfl rfl ?_
        refine q_bipush (v := nI 12) C dX7_restore_53 55 rfl (by decide) ?_
        obtain ⟨hat6, hok6, hlok6, f6, hm6, rfl⟩ := hQa2
        have hll6 := hlok6.1
        have hQo6 : k_isQ cI aS nbx nat0 nln nsc [(aS, .inl (cI, 350, .inl f6))] := ⟨hat6, hok6, hlok6, f6, hm6, rfl⟩
        refine q_iald (k := 1) (j := 0) (v := nI nln.length) C dX7_restore_55 56 rfl rfl rfl hcI 12 rfl (by omega) (by decide) (hm6.2.2.1) ?_
        exact q_iret C B dX7_restore_56 rfl rfl (fun t0 ht0 => ⟨rfl, _, hPo5, _, hQo6, _, hwV_19, by first | rfl | simp⟩)
      · refine q_aload_n C dX7_restore_31 32 1 rfl rfl ?_
        obtain rfl := hwP_19
        have hPo7 : k_isP cI h0 aS aZ aV aN aU aD (upd (upd fd 0 (nI 0)) 4 (nI (k_sav sv (bx, at0, ln, sc)).length)) hh [(h0, .inr (6, [.int (nI 0), .ref aS, .ref aZ, .ref aV, .int (nI (((k_sav sv (bx, at0, ln, sc)).length))), .ref aN, .int (fd 6), .ref aU, .int (fd 8), .int (fd 9), .int (fd 10), .ref aD, .int (fd 12), .int (fd 13), .int (fd 14), .long hh]))] := rfl
        refine q_get (k := 0) (j := 0) (f := 1) C hinX7 f7 (fun _ h => h) (by decide) rfl dX7_restore_32 35 rfl rfl rfl rfl ?_
        refine q_iload_n C dX7_restore_35 36 0 rfl rfl ?_
        refine q_aload_n C dX7_restore_36 37 1 rfl rfl ?_
        refine q_get (k := 0) (j := 0) (f := 5) C hinX7 f19 (fun _ h => h) (by decide) rfl dX7_restore_37 40 rfl rfl rfl rfl ?_
        refine q_iload_n C dX7_restore_40 41 0 rfl rfl ?_
        refine q_iald (k := 3) (j := 0) (v := f3 i) C dX7_restore_41 42 rfl rfl rfl hcI i rfl (by omega) (by decide) rfl ?_
        refine q_iast (k := 1) (j := 0) C dX7_restore_42 43 rfl rfl rfl hcI i rfl (by omega) (by decide) [[(h0, .inr (6, [.int (nI 0), .ref aS, .ref aZ, .ref aV, .int (nI (((k_sav sv (bx, at0, ln, sc)).length))), .ref aN, .int (fd 6), .ref aU, .int (fd 8), .int (fd 9), .int (fd 10), .ref aD, .int (fd 12), .int (fd 13), .int (fd 14), .long hh]))], [(aS, .inl (cI, 350, .inl (upd g i (f3 i))))], wV_19, [(aN, .inl (cI, 350, .inl f3))]] rfl ?_
        have hRs8 : k_isR cI aS (upd g i (f3 i)) [(aS, .inl (cI, 350, .inl (upd g i (f3 i))))] := rfl
        refine q_iinc (v := nI (i + 1)) C dX7_restore_43 46 0 rfl rfl (q_ninc1 (by omega)) [(1, .int (nI (i + 1))), (0, .ref h0)] (by decide) rfl ?_
        refine q_goto C dX7_restore_46 24 (by decide) ?_
        refine q_sub (L' := [(1, .int (nI (i + 1))), (0, .ref h0)]) [0, 1] rfl ?_
        exact ih_lp (i + 1) (upd g i (f3 i)) (by omega) (by omega) (fun q hq => (Decidable.em (q = i)).elim (fun e => by subst e; rw [pk_us]) (fun e => by rw [pk_un e]; exact hg q (by omega)))
  refine q_sub (L' := [(1, .int (nI 0)), (0, .ref h0)]) [0, 1] rfl ?_
  exact lp _ 0 f4 (Nat.lt_succ_self _) (by omega) (fun q hq => absurd hq (Nat.not_lt_zero q))

set_option maxHeartbeats 400000 in
set_option maxRecDepth 100000 in
theorem c_X7_wouldSet (l : Launch) {D : va_G} {tys : List (ClassId × FieldType)} {Z : (Nat → Prop) → State → Heap → Prop} (hZ : q_St Z) {cI : ClassId} (hI : tys[0]? = some (cI, .int)) (h0 : Nat) (aS : Nat) (aZ : Nat) (aV : Nat) (aN : Nat) (aU : Nat) (aD : Nat) (fd : Nat → Int32) (hh : Int64) (wP : va_W) (hP : k_isP cI h0 aS aZ aV aN aU aD fd hh wP) (bx : k_Bx) (at0 : Nat) (ln : List (Nat × Nat)) (sc : Nat → Int32) (wQ : va_W) (hQ : k_isQ cI aS bx at0 ln sc wQ) (zbx : k_Bx) (zat0 : Nat) (zln : List (Nat × Nat)) (zsc : Nat → Int32) (zw : va_W) (zh : k_isQ cI aZ zbx zat0 zln zsc zw) (c : Nat) (t : Nat) (hc : c < 12) (ht : t ≤ 20) (hm0 : ∃ m, m ≤ 120 ∧ sc 0 = nI m) (hs1 : sc 1 = nI (k_n1 sc)) (hs9 : k_n1 sc ≤ 9) : q_Ct l D tys Z yX7_wouldSet wsX7_wouldSet ({ frames := 7, cells := 0, slots := 0, locals := 222 } : Room) 0 0 [.ref h0, .int (nI c), .int (nI t)] [wP, wQ, zw] (fun v0 R0 _ => v0 = some (.int (nI (k_ie bx ln sc c t))) ∧ ∃ wQ', k_isQ cI aS bx at0 ln sc wQ' ∧ ∃ zw', k_isQ cI aZ bx at0 ln sc zw' ∧ R0 = [wP, wQ', zw']) := by
  have hcI := hI
  refine q_ct (cc := cX7_wouldSet) (maxL := 5) (ret := (some .int)) (own := RX7) (by decide) rfl hZ (Nat.le_of_ble_eq_true rfl) rfl ?_
  intro p9 e9 R s9 m9 args below meth c9 A Q C B
  have hts := C.2.2.2.2.1
  refine q_eqL (L' := [(0, .ref h0), (1, .int (nI c)), (2, .int (nI t))]) rfl ?_
  have hSok : k_Sok (bx, at0, ln, sc) := ⟨hQ.1, hQ.2.1, hQ.2.2.1⟩
  refine q_aload_n C dX7_wouldSet_0 1 0 rfl rfl ?_
  refine q_callV (k := 0) (ci := 6) (n := 0) (rest := []) (Rr := []) C rfl (k_isP_recv hP) rfl (c_X7_putAside l hZ hI h0 aS aZ aV aN aU aD fd hh wP hP bx at0 ln sc wQ hQ zbx zat0 zln zsc zw zh) gX7_wouldSet_X7_putAside rfl rfl rfl (by decide +kernel) B.1 ⟨Nat.le_of_ble_eq_true rfl, Nat.le_of_ble_eq_true rfl⟩ rfl rfl (Nat.le_of_ble_eq_true rfl) dX7_wouldSet_1 ⟨Nat.le_of_ble_eq_true rfl, Nat.le_of_ble_eq_true rfl⟩ [0, 1, 2] [] (by decide : ([0, 1, 2] ++ ([] : List Nat)).Perm (List.range 3)) rfl rfl 4 rfl (fun v0 R0 t0 ht0 hp0 => ?_)
  obtain ⟨rfl, wz_1, hwz_1, rfl⟩ := hp0
  refine q_eqs (st' := []) rfl ?_
  refine q_eqR (Rs' := [wP, wQ, wz_1]) rfl ?_
  refine q_aload_n C dX7_wouldSet_4 5 0 rfl rfl ?_
  refine q_callV (k := 0) (ci := 6) (n := 0) (rest := []) (Rr := [wz_1]) C rfl (k_isP_recv hP) rfl (c_X7_errors l hZ hI h0 aS aZ aV aN aU aD fd hh wP hP bx at0 ln sc wQ hQ) gX7_wouldSet_X7_errors rfl rfl rfl (by decide +kernel) B.1 ⟨Nat.le_of_ble_eq_true rfl, Nat.le_of_ble_eq_true rfl⟩ rfl rfl (Nat.le_of_ble_eq_true rfl) dX7_wouldSet_5 ⟨Nat.le_of_ble_eq_true rfl, Nat.le_of_ble_eq_true rfl⟩ [0, 1] [2] (by decide : ([0, 1] ++ ([2] : List Nat)).Perm (List.range 3)) rfl rfl 8 rfl (fun v0 R0 t0 ht0 hp0 => ?_)
  obtain ⟨rfl, rfl⟩ := hp0
  refine q_eqs (st' := [.int (nI (k_er ln))]) rfl ?_
  refine q_eqR (Rs' := [wP, wQ, wz_1]) rfl ?_
  have hc5 : k_er ln ≤ (ln).length := k_er_le _
  refine q_istore_n C dX7_wouldSet_8 9 rfl [(3, .int (nI (k_er ln))), (0, .ref h0), (1, .int (nI c)), (2, .int (nI t))] (by decide) rfl ?_
  refine q_iconst (v := nI 0) C dX7_wouldSet_9 10 rfl (by decide) ?_
  refine q_istore C dX7_wouldSet_10 12 rfl [(4, .int (nI 0)), (3, .int (nI (k_er ln))), (0, .ref h0), (1, .int (nI c)), (2, .int (nI t))] (by decide) rfl ?_
  have lp : ∀ (kk : Nat) (j : Nat) (wb : va_W), t - j < kk → ∀ (hj : j ≤ t), ∀ (hu : ∀ u, u < j → k_wn (k_si (bx, at0, ln, sc) c u).1 (k_si (bx, at0, ln, sc) c u).2.2.1 (k_si (bx, at0, ln, sc) c u).2.2.2 c = 0), ∀ (hwb : k_isQ cI aS ((k_si (bx, at0, ln, sc) c j).1) ((k_si (bx, at0, ln, sc) c j).2.1) ((k_si (bx, at0, ln, sc) c j).2.2.1) ((k_si (bx, at0, ln, sc) c j).2.2.2) wb), q_V p9 l e9 R s9 m9 args below meth c9 D A 5 Q 0 0 12 [(4, .int (nI j)), (3, .int (nI (k_er ln))), (0, .ref h0), (1, .int (nI c)), (2, .int (nI t))] [] [wP, wb, wz_1] := by
    intro kk
    induction kk with
    | zero => intro j wb hkk; exact absurd hkk (Nat.not_lt_zero _)
    | succ kk ih_lp =>
      intro j wb hkk hj hu hwb
      obtain ⟨i1, i2, i3, i4, i5, i6, i7⟩ := k_si_is (S := (bx, at0, ln, sc)) hSok hc hm0 j hu
      refine q_iload C dX7_wouldSet_12 14 0 rfl rfl ?_
      refine q_iload_n C dX7_wouldSet_14 15 4 rfl rfl ?_
      refine q_icmp_ge C dX7_wouldSet_15 18 38 rfl (by decide) (nI_leI (by omega) (by omega)) (fun h15 => ?_) (fun h15 => ?_)
      · refine q_aload_n C dX7_wouldSet_38 39 2 rfl rfl ?_
        refine q_callV (k := 0) (ci := 6) (n := 0) (rest := []) (Rr := [wz_1]) C rfl (k_isP_recv hP) rfl (c_X7_errors l hZ hI h0 aS aZ aV aN aU aD fd hh wP hP ((k_si (bx, at0, ln, sc) c j).1) ((k_si (bx, at0, ln, sc) c j).2.1) ((k_si (bx, at0, ln, sc) c j).2.2.1) ((k_si (bx, at0, ln, sc) c j).2.2.2) wb hwb) gX7_wouldSet_X7_errors rfl rfl rfl (by decide +kernel) B.1 ⟨Nat.le_of_ble_eq_true rfl, Nat.le_of_ble_eq_true rfl⟩ rfl rfl (Nat.le_of_ble_eq_true rfl) dX7_wouldSet_39 ⟨Nat.le_of_ble_eq_true rfl, Nat.le_of_ble_eq_true rfl⟩ [0, 1] [2] (by decide : ([0, 1] ++ ([2] : List Nat)).Perm (List.range 3)) rfl rfl 42 rfl (fun v0 R0 t0 ht0 hp0 => ?_)
        obtain ⟨rfl, rfl⟩ := hp0
        refine q_eqs (st' := [.int (nI (k_er ((k_si (bx, at0, ln, sc) c j).2.2.1)))]) rfl ?_
        refine q_eqR (Rs' := [wP, wb, wz_1]) rfl ?_
        have hc39 : k_er ((k_si (bx, at0, ln, sc) c j).2.2.1) ≤ (((k_si (bx, at0, ln, sc) c j).2.2.1)).length := k_er_le _
        refine q_iload_n C dX7_wouldSet_42 43 1 rfl rfl ?_
        have hie : k_er (k_si (bx, at0, ln, sc) c j).2.2.1 = k_er ln + k_ie bx ln sc c t := k_si_ie (S := (bx, at0, ln, sc)) hSok hc hm0 hu hj (Or.inl (by omega))
        refine q_isub (v := nI (k_ie bx ln sc c t)) C dX7_wouldSet_43 44 rfl (q_nsub (by omega) (by omega)) ?_
        refine q_istore C dX7_wouldSet_44 46 rfl [(4, .int (nI (k_ie bx ln sc c t))), (3, .int (nI (k_er ln))), (0, .ref h0), (1, .int (nI c)), (2, .int (nI t))] (by decide) rfl ?_
        refine q_aload_n C dX7_wouldSet_46 47 2 rfl rfl ?_
        refine q_callV (k := 0) (ci := 6) (n := 0) (rest := []) (Rr := []) C rfl (k_isP_recv hP) rfl (c_X7_takeBack l hZ hI h0 aS aZ aV aN aU aD fd hh wP hP ((k_si (bx, at0, ln, sc) c j).1) ((k_si (bx, at0, ln, sc) c j).2.1) ((k_si (bx, at0, ln, sc) c j).2.2.1) ((k_si (bx, at0, ln, sc) c j).2.2.2) wb hwb bx at0 ln sc wz_1 hwz_1) gX7_wouldSet_X7_takeBack rfl rfl rfl (by decide +kernel) B.1 ⟨Nat.le_of_ble_eq_true rfl, Nat.le_of_ble_eq_true rfl⟩ rfl rfl (Nat.le_of_ble_eq_true rfl) dX7_wouldSet_47 ⟨Nat.le_of_ble_eq_true rfl, Nat.le_of_ble_eq_true rfl⟩ [0, 1, 2] [] (by decide : ([0, 1, 2] ++ ([] : List Nat)).Perm (List.range 3)) rfl rfl 50 rfl (fun v0 R0 t0 ht0 hp0 => ?_)
        obtain ⟨rfl, wQ_47, hwQ_47, rfl⟩ := hp0
        refine q_eqs (st' := []) rfl ?_
        refine q_eqR (Rs' := [wP, wQ_47, wz_1]) rfl ?_
        refine q_iload C dX7_wouldSet_50 52 0 rfl rfl ?_
        exact q_iret C B dX7_wouldSet_52 rfl rfl (fun t0 ht0 => ⟨rfl, _, hwQ_47, _, hwz_1, rfl⟩)
      · refine q_aload_n C dX7_wouldSet_18 19 2 rfl rfl ?_
        refine q_iload_n C dX7_wouldSet_19 20 3 rfl rfl ?_
        refine q_callV (k := 0) (ci := 6) (n := 1) (rest := []) (Rr := [wz_1]) C rfl (k_isP_recv hP) rfl (c_X7_refusesLetter l hZ hI h0 aS aZ aV aN aU aD fd hh wP hP ((k_si (bx, at0, ln, sc) c j).1) ((k_si (bx, at0, ln, sc) c j).2.1) ((k_si (bx, at0, ln, sc) c j).2.2.1) ((k_si (bx, at0, ln, sc) c j).2.2.2) wb hwb c (by omega)) gX7_wouldSet_X7_refusesLetter rfl rfl rfl (by decide +kernel) B.1 ⟨Nat.le_of_ble_eq_true rfl, Nat.le_of_ble_eq_true rfl⟩ rfl rfl (Nat.le_of_ble_eq_true rfl) dX7_wouldSet_20 ⟨Nat.le_of_ble_eq_true rfl, Nat.le_of_ble_eq_true rfl⟩ [0, 1] [2] (by decide : ([0, 1] ++ ([2] : List Nat)).Perm (List.range 3)) rfl rfl 23 rfl (fun v0 R0 t0 ht0 hp0 => ?_)
        obtain ⟨rfl, rfl⟩ := hp0
        refine q_eqs (st' := [.int (nI (k_wn ((k_si (bx, at0, ln, sc) c j).1) ((k_si (bx, at0, ln, sc) c j).2.2.1) ((k_si (bx, at0, ln, sc) c j).2.2.2) c))]) rfl ?_
        refine q_eqR (Rs' := [wP, wb, wz_1]) rfl ?_
        have hw20 : k_wn ((k_si (bx, at0, ln, sc) c j).1) ((k_si (bx, at0, ln, sc) c j).2.2.1) ((k_si (bx, at0, ln, sc) c j).2.2.2) c ≤ 2 := k_wn_le _ _ _ _
        refine q_if_ne C dX7_wouldSet_23 26 38 rfl (by decide) (q_eq0 (by omega)) (fun h23 => ?_) (fun h23 => ?_)
        · refine q_aload_n C dX7_wouldSet_38 39 2 rfl rfl ?_
          refine q_callV (k := 0) (ci := 6) (n := 0) (rest := []) (Rr := [wz_1]) C rfl (k_isP_recv hP) rfl (c_X7_errors l hZ hI h0 aS aZ aV aN aU aD fd hh wP hP ((k_si (bx, at0, ln, sc) c j).1) ((k_si (bx, at0, ln, sc) c j).2.1) ((k_si (bx, at0, ln, sc) c j).2.2.1) ((k_si (bx, at0, ln, sc) c j).2.2.2) wb hwb) gX7_wouldSet_X7_errors rfl rfl rfl (by decide +kernel) B.1 ⟨Nat.le_of_ble_eq_true rfl, Nat.le_of_ble_eq_true rfl⟩ rfl rfl (Nat.le_of_ble_eq_true rfl) dX7_wouldSet_39 ⟨Nat.le_of_ble_eq_true rfl, Nat.le_of_ble_eq_true rfl⟩ [0, 1] [2] (by decide : ([0, 1] ++ ([2] : List Nat)).Perm (List.range 3)) rfl rfl 42 rfl (fun v0 R0 t0 ht0 hp0 => ?_)
          obtain ⟨rfl, rfl⟩ := hp0
          refine q_eqs (st' := [.int (nI (k_er ((k_si (bx, at0, ln, sc) c j).2.2.1)))]) rfl ?_
          refine q_eqR (Rs' := [wP, wb, wz_1]) rfl ?_
          have hc39 : k_er ((k_si (bx, at0, ln, sc) c j).2.2.1) ≤ (((k_si (bx, at0, ln, sc) c j).2.2.1)).length := k_er_le _
          refine q_iload_n C dX7_wouldSet_42 43 1 rfl rfl ?_
          have hie : k_er (k_si (bx, at0, ln, sc) c j).2.2.1 = k_er ln + k_ie bx ln sc c t := k_si_ie (S := (bx, at0, ln, sc)) hSok hc hm0 hu hj (Or.inr h23)
          refine q_isub (v := nI (k_ie bx ln sc c t)) C dX7_wouldSet_43 44 rfl (q_nsub (by omega) (by omega)) ?_
          refine q_istore C dX7_wouldSet_44 46 rfl [(4, .int (nI (k_ie bx ln sc c t))), (3, .int (nI (k_er ln))), (0, .ref h0), (1, .int (nI c)), (2, .int (nI t))] (by decide) rfl ?_
          refine q_aload_n C dX7_wouldSet_46 47 2 rfl rfl ?_
          refine q_callV (k := 0) (ci := 6) (n := 0) (rest := []) (Rr := []) C rfl (k_isP_recv hP) rfl (c_X7_takeBack l hZ hI h0 aS aZ aV aN aU aD fd hh wP hP ((k_si (bx, at0, ln, sc) c j).1) ((k_si (bx, at0, ln, sc) c j).2.1) ((k_si (bx, at0, ln, sc) c j).2.2.1) ((k_si (bx, at0, ln, sc) c j).2.2.2) wb hwb bx at0 ln sc wz_1 hwz_1) gX7_wouldSet_X7_takeBack rfl rfl rfl (by decide +kernel) B.1 ⟨Nat.le_of_ble_eq_true rfl, Nat.le_of_ble_eq_true rfl⟩ rfl rfl (Nat.le_of_ble_eq_true rfl) dX7_wouldSet_47 ⟨Nat.le_of_ble_eq_true rfl, Nat.le_of_ble_eq_true rfl⟩ [0, 1, 2] [] (by decide : ([0, 1, 2] ++ ([] : List Nat)).Perm (List.range 3)) rfl rfl 50 rfl (fun v0 R0 t0 ht0 hp0 => ?_)
          obtain ⟨rfl, wQ_47, hwQ_47, rfl⟩ := hp0
          refine q_eqs (st' := []) rfl ?_
          refine q_eqR (Rs' := [wP, wQ_47, wz_1]) rfl ?_
          refine q_iload C dX7_wouldSet_50 52 0 rfl rfl ?_
          exact q_iret C B dX7_wouldSet_52 rfl rfl (fun t0 ht0 => ⟨rfl, _, hwQ_47, _, hwz_1, rfl⟩)
        · refine q_aload_n C dX7_wouldSet_26 27 2 rfl rfl ?_
          refine q_iload_n C dX7_wouldSet_27 28 3 rfl rfl ?_
          have hw1 := (k_wn_inv h23).1
          refine q_callV (k := 0) (ci := 6) (n := 1) (rest := []) (Rr := [wz_1]) C rfl (k_isP_recv hP) rfl (c_X7_sets l hZ hI h0 aS aZ aV aN aU aD fd hh wP hP ((k_si (bx, at0, ln, sc) c j).1) ((k_si (bx, at0, ln, sc) c j).2.1) ((k_si (bx, at0, ln, sc) c j).2.2.1) ((k_si (bx, at0, ln, sc) c j).2.2.2) wb hwb c (by omega) (k_wn_inv h23).1 (k_wn_40 i1.2.2.1 h23 (by obtain ⟨m, hm1, hm2⟩ := hm0; exact ⟨m, hm1, (i3 0 (by decide)).trans hm2⟩)) (by have e := i3 1 (by decide); unfold k_n1; rw [e]; exact hs1) (by have e := i3 1 (by decide); unfold k_n1; rw [e]; exact hs9)) gX7_wouldSet_X7_sets rfl rfl rfl (by decide +kernel) B.1 ⟨Nat.le_of_ble_eq_true rfl, Nat.le_of_ble_eq_true rfl⟩ rfl rfl (Nat.le_of_ble_eq_true rfl) dX7_wouldSet_28 ⟨Nat.le_of_ble_eq_true rfl, Nat.le_of_ble_eq_true rfl⟩ [0, 1] [2] (by decide : ([0, 1] ++ ([2] : List Nat)).Perm (List.range 3)) rfl rfl 31 rfl (fun v0 R0 t0 ht0 hp0 => ?_)
          obtain ⟨rfl, wQ_28, hwQ_28, rfl⟩ := hp0
          refine q_eqs (st' := [.int (nI (k_x ((k_si (bx, at0, ln, sc) c j).1) c))]) rfl ?_
          refine q_eqR (Rs' := [wP, wQ_28, wz_1]) rfl ?_
          have ht28 : k_x ((k_si (bx, at0, ln, sc) c j).1) c < 12 := k_x_lt hwb.2.1 (by omega) (by omega)
          refine q_pop C dX7_wouldSet_31 32 rfl rfl ?_
          refine q_iinc (v := nI (j + 1)) C dX7_wouldSet_32 35 0 rfl rfl (q_ninc1 (by omega)) [(4, .int (nI (j + 1))), (3, .int (nI (k_er ln))), (0, .ref h0), (1, .int (nI c)), (2, .int (nI t))] (by decide) rfl ?_
          refine q_goto C dX7_wouldSet_35 12 (by decide) ?_
          refine q_sub (L' := [(4, .int (nI (j + 1))), (3, .int (nI (k_er ln))), (0, .ref h0), (1, .int (nI c)), (2, .int (nI t))]) [0, 1, 2, 3, 4] rfl ?_
          exact ih_lp (j + 1) wQ_28 (by omega) (by omega) (fun u hq => (Decidable.em (u = j)).elim (fun e => by subst e; exact h23) (fun e => hu u (by omega))) hwQ_28
  refine q_sub (L' := [(4, .int (nI 0)), (3, .int (nI (k_er ln))), (0, .ref h0), (1, .int (nI c)), (2, .int (nI t))]) [0, 1, 2, 3, 4] rfl ?_
  exact lp _ 0 wQ (Nat.lt_succ_self _) (by omega) (fun u hu => absurd hu (Nat.not_lt_zero u)) hQ

set_option maxHeartbeats 400000 in
set_option maxRecDepth 100000 in
theorem c_X7_ifSet_a (l : Launch) {D : va_G} {tys : List (ClassId × FieldType)} {Z : (Nat → Prop) → State → Heap → Prop} (hZ : q_St Z) {cI : ClassId} (hI : tys[0]? = some (cI, .int)) (h0 : Nat) (aS : Nat) (aZ : Nat) (aV : Nat) (aN : Nat) (aU : Nat) (aD : Nat) (fd : Nat → Int32) (hh : Int64) (w : va_W) (h : k_isP cI h0 aS aZ aV aN aU aD fd hh w) (v : Int32) (v2 : Int32) (hbad : ¬ ((0 : Int32) ≤ v ∧ v ≤ 11)) : q_Ct l D tys Z yX7_ifSet wsX7_ifSet ({ frames := 8, cells := 0, slots := 0, locals := 252 } : Room) 0 0 [.ref h0, .int v, .int v2] [w] (fun v0 R0 _ => v0 = some (.int (nI 0)) ∧ ∃ w', k_isP cI h0 aS aZ aV aN aU aD (upd (upd fd 0 (nI 0)) 0 (nI 1)) hh w' ∧ R0 = [w']) := by
  have hcI := hI
  refine q_ct (cc := cX7_ifSet) (maxL := 3) (ret := (some .int)) (own := RX7) (by decide) rfl hZ (Nat.le_of_ble_eq_true rfl) rfl ?_
  intro p9 e9 R s9 m9 args below meth c9 A Q C B
  have hts := C.2.2.2.2.1
  have hinX7 : ∀ w ∈ u_ws RX7 TX7 16, w ∈ wsX7_ifSet := by decide +kernel
  have f28 := hts (.fieldLink RX7 28 "SortCasesModel" "thrown" "I") (by decide +kernel)
  refine q_eqL (L' := [(0, .ref h0), (1, .int v), (2, .int v2)]) rfl ?_
  refine q_aload_n C dX7_ifSet_0 1 0 rfl rfl ?_
  refine q_iconst (v := nI 0) C dX7_ifSet_1 2 rfl (by decide) ?_
  obtain rfl := h
  have hPo1 : k_isP cI h0 aS aZ aV aN aU aD fd hh [(h0, .inr (6, [.int (fd 0), .ref aS, .ref aZ, .ref aV, .int (fd 4), .ref aN, .int (fd 6), .ref aU, .int (fd 8), .int (fd 9), .int (fd 10), .ref aD, .int (fd 12), .int (fd 13), .int (fd 14), .long hh]))] := rfl
  refine q_put (k := 0) (j := 0) (f := 0) C hinX7 tyX7 tyX7_ok nmX7 f28 (fun _ h => h) (by decide) rfl rfl (tyX7_ok 0 (by decide)) rfl rfl dX7_ifSet_2 5 rfl rfl rfl (Nat.le_of_ble_eq_true rfl) [[(h0, .inr (6, [.int (nI 0), .ref aS, .ref aZ, .ref aV, .int (fd 4), .ref aN, .int (fd 6), .ref aU, .int (fd 8), .int (fd 9), .int (fd 10), .ref aD, .int (fd 12), .int (fd 13), .int (fd 14), .long hh]))]] rfl ?_
  have hPp2 : k_isP cI h0 aS aZ aV aN aU aD (upd fd 0 (nI 0)) hh [(h0, .inr (6, [.int (nI 0), .ref aS, .ref aZ, .ref aV, .int (fd 4), .ref aN, .int (fd 6), .ref aU, .int (fd 8), .int (fd 9), .int (fd 10), .ref aD, .int (fd 12), .int (fd 13), .int (fd 14), .long hh]))] := rfl
  refine q_iload_n C dX7_ifSet_5 6 1 rfl rfl ?_
  refine q_callS (n := 1) (rest := []) (Rr := [[(h0, .inr (6, [.int (nI 0), .ref aS, .ref aZ, .ref aV, .int (fd 4), .ref aN, .int (fd 6), .ref aU, .int (fd 8), .int (fd 9), .int (fd 10), .ref aD, .int (fd 12), .int (fd 13), .int (fd 14), .long hh]))]]) C (c_X7_isBox_f l hZ hI v hbad) gX7_ifSet_X7_isBox rfl rfl rfl (by decide +kernel) B.1 ⟨Nat.le_of_ble_eq_true rfl, Nat.le_of_ble_eq_true rfl⟩ rfl rfl (Nat.le_of_ble_eq_true rfl) dX7_ifSet_6 ⟨Nat.le_of_ble_eq_true rfl, Nat.le_of_ble_eq_true rfl⟩ [] [0] (by decide : ([] ++ ([0] : List Nat)).Perm (List.range 1)) rfl rfl 9 rfl (fun v0 R0 t0 ht0 hp0 => ?_)
  obtain ⟨rfl, rfl⟩ := hp0
  refine q_eqs (st' := [.int (nI 0)]) rfl ?_
  refine q_eqR (Rs' := [[(h0, .inr (6, [.int (nI 0), .ref aS, .ref aZ, .ref aV, .int (fd 4), .ref aN, .int (fd 6), .ref aU, .int (fd 8), .int (fd 9), .int (fd 10), .ref aD, .int (fd 12), .int (fd 13), .int (fd 14), .long hh]))]]) rfl ?_
  refine q_if_ne C dX7_ifSet_9 12 18 rfl (by decide) (q_eq0 (by omega)) (fun h9 => False.elim (by first | omega | simp_all)) (fun h9 => ?_)
  refine q_aload_n C dX7_ifSet_12 13 0 rfl rfl ?_
  refine q_iconst (v := nI 1) C dX7_ifSet_13 14 rfl (by decide) ?_
  refine q_callV (k := 0) (ci := 6) (n := 1) (rest := []) (Rr := []) C rfl (k_isP_recv hPp2) rfl (c_X7_fails l hZ hI h0 aS aZ aV aN aU aD (upd fd 0 (nI 0)) hh ([(h0, .inr (6, [.int (nI 0), .ref aS, .ref aZ, .ref aV, .int (fd 4), .ref aN, .int (fd 6), .ref aU, .int (fd 8), .int (fd 9), .int (fd 10), .ref aD, .int (fd 12), .int (fd 13), .int (fd 14), .long hh]))]) hPp2 (nI 1)) gX7_ifSet_X7_fails rfl rfl rfl (by decide +kernel) B.1 ⟨Nat.le_of_ble_eq_true rfl, Nat.le_of_ble_eq_true rfl⟩ rfl rfl (Nat.le_of_ble_eq_true rfl) dX7_ifSet_14 ⟨Nat.le_of_ble_eq_true rfl, Nat.le_of_ble_eq_true rfl⟩ [0] [] (by decide : ([0] ++ ([] : List Nat)).Perm (List.range 1)) rfl rfl 17 rfl (fun v0 R0 t0 ht0 hp0 => ?_)
  obtain ⟨rfl, w_14, hw_14, rfl⟩ := hp0
  refine q_eqs (st' := [.int (nI 0)]) rfl ?_
  refine q_eqR (Rs' := [w_14]) rfl ?_
  exact q_iret C B dX7_ifSet_17 rfl rfl (fun t0 ht0 => ⟨rfl, _, hw_14, by first | rfl | simp⟩)

set_option maxHeartbeats 400000 in
set_option maxRecDepth 100000 in
theorem c_X7_ifSet_b (l : Launch) {D : va_G} {tys : List (ClassId × FieldType)} {Z : (Nat → Prop) → State → Heap → Prop} (hZ : q_St Z) {cI : ClassId} (hI : tys[0]? = some (cI, .int)) (h0 : Nat) (aS : Nat) (aZ : Nat) (aV : Nat) (aN : Nat) (aU : Nat) (aD : Nat) (fd : Nat → Int32) (hh : Int64) (w : va_W) (h : k_isP cI h0 aS aZ aV aN aU aD fd hh w) (c : Nat) (v : Int32) (hc : c < 12) (hbad : ¬ (nI 1 ≤ v ∧ v ≤ nI 20)) : q_Ct l D tys Z yX7_ifSet wsX7_ifSet ({ frames := 8, cells := 0, slots := 0, locals := 252 } : Room) 0 0 [.ref h0, .int (nI c), .int v] [w] (fun v0 R0 _ => v0 = some (.int (nI 0)) ∧ ∃ w', k_isP cI h0 aS aZ aV aN aU aD (upd (upd fd 0 (nI 0)) 0 (nI 2)) hh w' ∧ R0 = [w']) := by
  have hcI := hI
  refine q_ct (cc := cX7_ifSet) (maxL := 3) (ret := (some .int)) (own := RX7) (by decide) rfl hZ (Nat.le_of_ble_eq_true rfl) rfl ?_
  intro p9 e9 R s9 m9 args below meth c9 A Q C B
  have hts := C.2.2.2.2.1
  have hinX7 : ∀ w ∈ u_ws RX7 TX7 16, w ∈ wsX7_ifSet := by decide +kernel
  have f28 := hts (.fieldLink RX7 28 "SortCasesModel" "thrown" "I") (by decide +kernel)
  refine q_eqL (L' := [(0, .ref h0), (1, .int (nI c)), (2, .int v)]) rfl ?_
  refine q_aload_n C dX7_ifSet_0 1 0 rfl rfl ?_
  refine q_iconst (v := nI 0) C dX7_ifSet_1 2 rfl (by decide) ?_
  obtain rfl := h
  have hPo1 : k_isP cI h0 aS aZ aV aN aU aD fd hh [(h0, .inr (6, [.int (fd 0), .ref aS, .ref aZ, .ref aV, .int (fd 4), .ref aN, .int (fd 6), .ref aU, .int (fd 8), .int (fd 9), .int (fd 10), .ref aD, .int (fd 12), .int (fd 13), .int (fd 14), .long hh]))] := rfl
  refine q_put (k := 0) (j := 0) (f := 0) C hinX7 tyX7 tyX7_ok nmX7 f28 (fun _ h => h) (by decide) rfl rfl (tyX7_ok 0 (by decide)) rfl rfl dX7_ifSet_2 5 rfl rfl rfl (Nat.le_of_ble_eq_true rfl) [[(h0, .inr (6, [.int (nI 0), .ref aS, .ref aZ, .ref aV, .int (fd 4), .ref aN, .int (fd 6), .ref aU, .int (fd 8), .int (fd 9), .int (fd 10), .ref aD, .int (fd 12), .int (fd 13), .int (fd 14), .long hh]))]] rfl ?_
  have hPp2 : k_isP cI h0 aS aZ aV aN aU aD (upd fd 0 (nI 0)) hh [(h0, .inr (6, [.int (nI 0), .ref aS, .ref aZ, .ref aV, .int (fd 4), .ref aN, .int (fd 6), .ref aU, .int (fd 8), .int (fd 9), .int (fd 10), .ref aD, .int (fd 12), .int (fd 13), .int (fd 14), .long hh]))] := rfl
  refine q_iload_n C dX7_ifSet_5 6 1 rfl rfl ?_
  refine q_callS (n := 1) (rest := []) (Rr := [[(h0, .inr (6, [.int (nI 0), .ref aS, .ref aZ, .ref aV, .int (fd 4), .ref aN, .int (fd 6), .ref aU, .int (fd 8), .int (fd 9), .int (fd 10), .ref aD, .int (fd 12), .int (fd 13), .int (fd 14), .long hh]))]]) C (c_X7_isBox_t l hZ hI (nI c) (k_b12 (by omega))) gX7_ifSet_X7_isBox rfl rfl rfl (by decide +kernel) B.1 ⟨Nat.le_of_ble_eq_true rfl, Nat.le_of_ble_eq_true rfl⟩ rfl rfl (Nat.le_of_ble_eq_true rfl) dX7_ifSet_6 ⟨Nat.le_of_ble_eq_true rfl, Nat.le_of_ble_eq_true rfl⟩ [] [0] (by decide : ([] ++ ([0] : List Nat)).Perm (List.range 1)) rfl rfl 9 rfl (fun v0 R0 t0 ht0 hp0 => ?_)
  obtain ⟨rfl, rfl⟩ := hp0
  refine q_eqs (st' := [.int (nI 1)]) rfl ?_
  refine q_eqR (Rs' := [[(h0, .inr (6, [.int (nI 0), .ref aS, .ref aZ, .ref aV, .int (fd 4), .ref aN, .int (fd 6), .ref aU, .int (fd 8), .int (fd 9), .int (fd 10), .ref aD, .int (fd 12), .int (fd 13), .int (fd 14), .long hh]))]]) rfl ?_
  refine q_if_ne C dX7_ifSet_9 12 18 rfl (by decide) (q_eq0 (by omega)) (fun h9 => ?_) (fun h9 => False.elim (by first | omega | simp_all))
  refine q_iload_n C dX7_ifSet_18 19 2 rfl rfl ?_
  refine q_iconst (v := nI 1) C dX7_ifSet_19 20 rfl (by decide) ?_
  refine q_bipush (v := nI 20) C dX7_ifSet_20 22 rfl (by decide) ?_
  refine q_callS (n := 3) (rest := []) (Rr := [[(h0, .inr (6, [.int (nI 0), .ref aS, .ref aZ, .ref aV, .int (fd 4), .ref aN, .int (fd 6), .ref aU, .int (fd 8), .int (fd 9), .int (fd 10), .ref aD, .int (fd 12), .int (fd 13), .int (fd 14), .long hh]))]]) C (c_X7_in_f l hZ hI v (nI 1) (nI 20) hbad) gX7_ifSet_X7_in rfl rfl rfl (by decide +kernel) B.1 ⟨Nat.le_of_ble_eq_true rfl, Nat.le_of_ble_eq_true rfl⟩ rfl rfl (Nat.le_of_ble_eq_true rfl) dX7_ifSet_22 ⟨Nat.le_of_ble_eq_true rfl, Nat.le_of_ble_eq_true rfl⟩ [] [0] (by decide : ([] ++ ([0] : List Nat)).Perm (List.range 1)) rfl rfl 25 rfl (fun v0 R0 t0 ht0 hp0 => ?_)
  obtain ⟨rfl, rfl⟩ := hp0
  refine q_eqs (st' := [.int (nI 0)]) rfl ?_
  refine q_eqR (Rs' := [[(h0, .inr (6, [.int (nI 0), .ref aS, .ref aZ, .ref aV, .int (fd 4), .ref aN, .int (fd 6), .ref aU, .int (fd 8), .int (fd 9), .int (fd 10), .ref aD, .int (fd 12), .int (fd 13), .int (fd 14), .long hh]))]]) rfl ?_
  refine q_if_eq C dX7_ifSet_25 28 37 rfl (by decide) (q_eq0 (by omega)) (fun h25 => ?_) (fun h25 => False.elim (by first | omega | simp_all))
  refine q_aload_n C dX7_ifSet_37 38 0 rfl rfl ?_
  refine q_iconst (v := nI 2) C dX7_ifSet_38 39 rfl (by decide) ?_
  refine q_callV (k := 0) (ci := 6) (n := 1) (rest := []) (Rr := []) C rfl (k_isP_recv hPp2) rfl (c_X7_fails l hZ hI h0 aS aZ aV aN aU aD (upd fd 0 (nI 0)) hh ([(h0, .inr (6, [.int (nI 0), .ref aS, .ref aZ, .ref aV, .int (fd 4), .ref aN, .int (fd 6), .ref aU, .int (fd 8), .int (fd 9), .int (fd 10), .ref aD, .int (fd 12), .int (fd 13), .int (fd 14), .long hh]))]) hPp2 (nI 2)) gX7_ifSet_X7_fails rfl rfl rfl (by decide +kernel) B.1 ⟨Nat.le_of_ble_eq_true rfl, Nat.le_of_ble_eq_true rfl⟩ rfl rfl (Nat.le_of_ble_eq_true rfl) dX7_ifSet_39 ⟨Nat.le_of_ble_eq_true rfl, Nat.le_of_ble_eq_true rfl⟩ [0] [] (by decide : ([0] ++ ([] : List Nat)).Perm (List.range 1)) rfl rfl 42 rfl (fun v0 R0 t0 ht0 hp0 => ?_)
  obtain ⟨rfl, w_39, hw_39, rfl⟩ := hp0
  refine q_eqs (st' := [.int (nI 0)]) rfl ?_
  refine q_eqR (Rs' := [w_39]) rfl ?_
  exact q_iret C B dX7_ifSet_42 rfl rfl (fun t0 ht0 => ⟨rfl, _, hw_39, by first | rfl | simp⟩)

set_option maxHeartbeats 400000 in
set_option maxRecDepth 100000 in
theorem c_X7_ifSet_c (l : Launch) {D : va_G} {tys : List (ClassId × FieldType)} {Z : (Nat → Prop) → State → Heap → Prop} (hZ : q_St Z) {cI : ClassId} (hI : tys[0]? = some (cI, .int)) (h0 : Nat) (aS : Nat) (aZ : Nat) (aV : Nat) (aN : Nat) (aU : Nat) (aD : Nat) (fd : Nat → Int32) (hh : Int64) (wP : va_W) (hP : k_isP cI h0 aS aZ aV aN aU aD fd hh wP) (bx : k_Bx) (at0 : Nat) (ln : List (Nat × Nat)) (sc : Nat → Int32) (wQ : va_W) (hQ : k_isQ cI aS bx at0 ln sc wQ) (zbx : k_Bx) (zat0 : Nat) (zln : List (Nat × Nat)) (zsc : Nat → Int32) (zw : va_W) (zh : k_isQ cI aZ zbx zat0 zln zsc zw) (c : Nat) (t : Nat) (hc : c < 12) (ht1 : 1 ≤ t) (ht : t ≤ 20) (hm0 : ∃ m, m ≤ 120 ∧ sc 0 = nI m) (hs1 : sc 1 = nI (k_n1 sc)) (hs9 : k_n1 sc ≤ 9) : q_Ct l D tys Z yX7_ifSet wsX7_ifSet ({ frames := 8, cells := 0, slots := 0, locals := 252 } : Room) 0 0 [.ref h0, .int (nI c), .int (nI t)] [wP, wQ, zw] (fun v0 R0 _ => v0 = some (.int (nI (k_ie bx ln sc c t))) ∧ ∃ wP', k_isP cI h0 aS aZ aV aN aU aD (upd fd 0 (nI 0)) hh wP' ∧ ∃ wQ', k_isQ cI aS bx at0 ln sc wQ' ∧ ∃ zw', k_isQ cI aZ bx at0 ln sc zw' ∧ R0 = [wP', wQ', zw']) := by
  have hcI := hI
  refine q_ct (cc := cX7_ifSet) (maxL := 3) (ret := (some .int)) (own := RX7) (by decide) rfl hZ (Nat.le_of_ble_eq_true rfl) rfl ?_
  intro p9 e9 R s9 m9 args below meth c9 A Q C B
  have hts := C.2.2.2.2.1
  have hinX7 : ∀ w ∈ u_ws RX7 TX7 16, w ∈ wsX7_ifSet := by decide +kernel
  have f28 := hts (.fieldLink RX7 28 "SortCasesModel" "thrown" "I") (by decide +kernel)
  refine q_eqL (L' := [(0, .ref h0), (1, .int (nI c)), (2, .int (nI t))]) rfl ?_
  refine q_aload_n C dX7_ifSet_0 1 0 rfl rfl ?_
  refine q_iconst (v := nI 0) C dX7_ifSet_1 2 rfl (by decide) ?_
  obtain rfl := hP
  have hPo1 : k_isP cI h0 aS aZ aV aN aU aD fd hh [(h0, .inr (6, [.int (fd 0), .ref aS, .ref aZ, .ref aV, .int (fd 4), .ref aN, .int (fd 6), .ref aU, .int (fd 8), .int (fd 9), .int (fd 10), .ref aD, .int (fd 12), .int (fd 13), .int (fd 14), .long hh]))] := rfl
  refine q_put (k := 0) (j := 0) (f := 0) C hinX7 tyX7 tyX7_ok nmX7 f28 (fun _ h => h) (by decide) rfl rfl (tyX7_ok 0 (by decide)) rfl rfl dX7_ifSet_2 5 rfl rfl rfl (Nat.le_of_ble_eq_true rfl) [[(h0, .inr (6, [.int (nI 0), .ref aS, .ref aZ, .ref aV, .int (fd 4), .ref aN, .int (fd 6), .ref aU, .int (fd 8), .int (fd 9), .int (fd 10), .ref aD, .int (fd 12), .int (fd 13), .int (fd 14), .long hh]))], wQ, zw] rfl ?_
  have hPp2 : k_isP cI h0 aS aZ aV aN aU aD (upd fd 0 (nI 0)) hh [(h0, .inr (6, [.int (nI 0), .ref aS, .ref aZ, .ref aV, .int (fd 4), .ref aN, .int (fd 6), .ref aU, .int (fd 8), .int (fd 9), .int (fd 10), .ref aD, .int (fd 12), .int (fd 13), .int (fd 14), .long hh]))] := rfl
  refine q_iload_n C dX7_ifSet_5 6 1 rfl rfl ?_
  refine q_callS (n := 1) (rest := []) (Rr := [[(h0, .inr (6, [.int (nI 0), .ref aS, .ref aZ, .ref aV, .int (fd 4), .ref aN, .int (fd 6), .ref aU, .int (fd 8), .int (fd 9), .int (fd 10), .ref aD, .int (fd 12), .int (fd 13), .int (fd 14), .long hh]))], wQ, zw]) C (c_X7_isBox_t l hZ hI (nI c) (k_b12 (by omega))) gX7_ifSet_X7_isBox rfl rfl rfl (by decide +kernel) B.1 ⟨Nat.le_of_ble_eq_true rfl, Nat.le_of_ble_eq_true rfl⟩ rfl rfl (Nat.le_of_ble_eq_true rfl) dX7_ifSet_6 ⟨Nat.le_of_ble_eq_true rfl, Nat.le_of_ble_eq_true rfl⟩ [] [0, 1, 2] (by decide : ([] ++ ([0, 1, 2] : List Nat)).Perm (List.range 3)) rfl rfl 9 rfl (fun v0 R0 t0 ht0 hp0 => ?_)
  obtain ⟨rfl, rfl⟩ := hp0
  refine q_eqs (st' := [.int (nI 1)]) rfl ?_
  refine q_eqR (Rs' := [[(h0, .inr (6, [.int (nI 0), .ref aS, .ref aZ, .ref aV, .int (fd 4), .ref aN, .int (fd 6), .ref aU, .int (fd 8), .int (fd 9), .int (fd 10), .ref aD, .int (fd 12), .int (fd 13), .int (fd 14), .long hh]))], wQ, zw]) rfl ?_
  refine q_if_ne C dX7_ifSet_9 12 18 rfl (by decide) (q_eq0 (by omega)) (fun h9 => ?_) (fun h9 => False.elim (by first | omega | simp_all))
  refine q_iload_n C dX7_ifSet_18 19 2 rfl rfl ?_
  refine q_iconst (v := nI 1) C dX7_ifSet_19 20 rfl (by decide) ?_
  refine q_bipush (v := nI 20) C dX7_ifSet_20 22 rfl (by decide) ?_
  refine q_callS (n := 3) (rest := []) (Rr := [[(h0, .inr (6, [.int (nI 0), .ref aS, .ref aZ, .ref aV, .int (fd 4), .ref aN, .int (fd 6), .ref aU, .int (fd 8), .int (fd 9), .int (fd 10), .ref aD, .int (fd 12), .int (fd 13), .int (fd 14), .long hh]))], wQ, zw]) C (c_X7_in_t l hZ hI (nI t) (nI 1) (nI 20) (k_in2 (by omega) (by omega) (by omega))) gX7_ifSet_X7_in rfl rfl rfl (by decide +kernel) B.1 ⟨Nat.le_of_ble_eq_true rfl, Nat.le_of_ble_eq_true rfl⟩ rfl rfl (Nat.le_of_ble_eq_true rfl) dX7_ifSet_22 ⟨Nat.le_of_ble_eq_true rfl, Nat.le_of_ble_eq_true rfl⟩ [] [0, 1, 2] (by decide : ([] ++ ([0, 1, 2] : List Nat)).Perm (List.range 3)) rfl rfl 25 rfl (fun v0 R0 t0 ht0 hp0 => ?_)
  obtain ⟨rfl, rfl⟩ := hp0
  refine q_eqs (st' := [.int (nI 1)]) rfl ?_
  refine q_eqR (Rs' := [[(h0, .inr (6, [.int (nI 0), .ref aS, .ref aZ, .ref aV, .int (fd 4), .ref aN, .int (fd 6), .ref aU, .int (fd 8), .int (fd 9), .int (fd 10), .ref aD, .int (fd 12), .int (fd 13), .int (fd 14), .long hh]))], wQ, zw]) rfl ?_
  refine q_if_eq C dX7_ifSet_25 28 37 rfl (by decide) (q_eq0 (by omega)) (fun h25 => False.elim (by first | omega | simp_all)) (fun h25 => ?_)
  refine q_aload_n C dX7_ifSet_28 29 0 rfl rfl ?_
  refine q_iload_n C dX7_ifSet_29 30 1 rfl rfl ?_
  refine q_iload_n C dX7_ifSet_30 31 2 rfl rfl ?_
  refine q_callV (k := 0) (ci := 6) (n := 2) (rest := []) (Rr := []) C rfl (k_isP_recv hPp2) rfl (c_X7_wouldSet l hZ hI h0 aS aZ aV aN aU aD (upd fd 0 (nI 0)) hh ([(h0, .inr (6, [.int (nI 0), .ref aS, .ref aZ, .ref aV, .int (fd 4), .ref aN, .int (fd 6), .ref aU, .int (fd 8), .int (fd 9), .int (fd 10), .ref aD, .int (fd 12), .int (fd 13), .int (fd 14), .long hh]))]) hPp2 bx at0 ln sc wQ hQ zbx zat0 zln zsc zw zh c t (by omega) (by omega) hm0 hs1 hs9) gX7_ifSet_X7_wouldSet rfl rfl rfl (by decide +kernel) B.1 ⟨Nat.le_of_ble_eq_true rfl, Nat.le_of_ble_eq_true rfl⟩ rfl rfl (Nat.le_of_ble_eq_true rfl) dX7_ifSet_31 ⟨Nat.le_of_ble_eq_true rfl, Nat.le_of_ble_eq_true rfl⟩ [0, 1, 2] [] (by decide : ([0, 1, 2] ++ ([] : List Nat)).Perm (List.range 3)) rfl rfl 34 rfl (fun v0 R0 t0 ht0 hp0 => ?_)
  obtain ⟨rfl, wQ_31, hwQ_31, wz_31, hwz_31, rfl⟩ := hp0
  refine q_eqs (st' := [.int (nI (k_ie bx ln sc c t))]) rfl ?_
  refine q_eqR (Rs' := [[(h0, .inr (6, [.int (nI 0), .ref aS, .ref aZ, .ref aV, .int (fd 4), .ref aN, .int (fd 6), .ref aU, .int (fd 8), .int (fd 9), .int (fd 10), .ref aD, .int (fd 12), .int (fd 13), .int (fd 14), .long hh]))], wQ_31, wz_31]) rfl ?_
  have hw31 : k_ie bx ln sc c t ≤ 20 := (Nat.le_trans (k_ie_le _ _ _ _ _) (by omega))
  refine q_goto C dX7_ifSet_34 42 (by decide) ?_
  exact q_iret C B dX7_ifSet_42 rfl rfl (fun t0 ht0 => ⟨rfl, _, hPp2, _, hwQ_31, _, hwz_31, by first | rfl | simp⟩)

set_option maxHeartbeats 400000 in
set_option maxRecDepth 100000 in
theorem c_X7_sortsAll (l : Launch) {D : va_G} {tys : List (ClassId × FieldType)} {Z : (Nat → Prop) → State → Heap → Prop} (hZ : q_St Z) {cI : ClassId} (hI : tys[0]? = some (cI, .int)) (h0 : Nat) (aS : Nat) (aZ : Nat) (aV : Nat) (aN : Nat) (aU : Nat) (aD : Nat) (fd : Nat → Int32) (hh : Int64) (wP : va_W) (hP : k_isP cI h0 aS aZ aV aN aU aD fd hh wP) (bx : k_Bx) (at0 : Nat) (ln : List (Nat × Nat)) (sc : Nat → Int32) (wQ : va_W) (hQ : k_isQ cI aS bx at0 ln sc wQ) (zbx : k_Bx) (zat0 : Nat) (zln : List (Nat × Nat)) (zsc : Nat → Int32) (zw : va_W) (zh : k_isQ cI aZ zbx zat0 zln zsc zw) (hty : k_ty bx ≤ 72) : q_Ct l D tys Z yX7_sortsAll wsX7_sortsAll ({ frames := 5, cells := 0, slots := 0, locals := 162 } : Room) 0 0 [.ref h0] [wP, wQ, zw] (fun v0 R0 _ => v0 = none ∧ ∃ wP', k_isP cI h0 aS aZ aV aN aU aD (upd (upd fd 13 (nI (k_lm bx at0 (-1) (k_T bx at0)))) 14 (nI (k_wr (k_bs bx at0 (-1) (k_T bx at0)).1))) hh wP' ∧ ∃ wQ', k_isQ cI aS bx at0 ln sc wQ' ∧ ∃ zw', k_isQ cI aZ bx at0 ln sc zw' ∧ R0 = [wP', wQ', zw']) := by
  have hcI := hI
  refine q_ct (cc := cX7_sortsAll) (maxL := 4) (ret := none) (own := RX7) (by decide) rfl hZ (Nat.le_of_ble_eq_true rfl) rfl ?_
  intro p9 e9 R s9 m9 args below meth c9 A Q C B
  have hts := C.2.2.2.2.1
  have hinX7 : ∀ w ∈ u_ws RX7 TX7 16, w ∈ wsX7_sortsAll := by decide +kernel
  have f7 := hts (.fieldLink RX7 7 "SortCasesModel" "s" "[I") (by decide +kernel)
  have f213 := hts (.fieldLink RX7 213 "SortCasesModel" "lastMove" "I") (by decide +kernel)
  have f216 := hts (.fieldLink RX7 216 "SortCasesModel" "wrongBehind" "I") (by decide +kernel)
  refine q_eqL (L' := [(0, .ref h0)]) rfl ?_
  have hok := hQ.2.1
  have hat := hQ.1
  refine q_aload_n C dX7_sortsAll_0 1 0 rfl rfl ?_
  refine q_callV (k := 0) (ci := 6) (n := 0) (rest := []) (Rr := []) C rfl (k_isP_recv hP) rfl (c_X7_putAside l hZ hI h0 aS aZ aV aN aU aD fd hh wP hP bx at0 ln sc wQ hQ zbx zat0 zln zsc zw zh) gX7_sortsAll_X7_putAside rfl rfl rfl (by decide +kernel) B.1 ⟨Nat.le_of_ble_eq_true rfl, Nat.le_of_ble_eq_true rfl⟩ rfl rfl (Nat.le_of_ble_eq_true rfl) dX7_sortsAll_1 ⟨Nat.le_of_ble_eq_true rfl, Nat.le_of_ble_eq_true rfl⟩ [0, 1, 2] [] (by decide : ([0, 1, 2] ++ ([] : List Nat)).Perm (List.range 3)) rfl rfl 4 rfl (fun v0 R0 t0 ht0 hp0 => ?_)
  obtain ⟨rfl, wz_1, hwz_1, rfl⟩ := hp0
  refine q_eqs (st' := []) rfl ?_
  refine q_eqR (Rs' := [wP, wQ, wz_1]) rfl ?_
  refine q_aload_n C dX7_sortsAll_4 5 0 rfl rfl ?_
  obtain rfl := hP
  have hPo1 : k_isP cI h0 aS aZ aV aN aU aD fd hh [(h0, .inr (6, [.int (fd 0), .ref aS, .ref aZ, .ref aV, .int (fd 4), .ref aN, .int (fd 6), .ref aU, .int (fd 8), .int (fd 9), .int (fd 10), .ref aD, .int (fd 12), .int (fd 13), .int (fd 14), .long hh]))] := rfl
  refine q_get (k := 0) (j := 0) (f := 1) C hinX7 f7 (fun _ h => h) (by decide) rfl dX7_sortsAll_5 8 rfl rfl rfl rfl ?_
  refine q_iconst (v := nI 3) C dX7_sortsAll_8 9 rfl (by decide) ?_
  refine q_iconst (v := -1) C dX7_sortsAll_9 10 rfl (by decide) ?_
  obtain ⟨hat2, hok2, hlok2, f2, hm2, rfl⟩ := hQ
  have hll2 := hlok2.1
  have hQo2 : k_isQ cI aS bx at0 ln sc [(aS, .inl (cI, 350, .inl f2))] := ⟨hat2, hok2, hlok2, f2, hm2, rfl⟩
  refine q_iast (k := 1) (j := 0) C dX7_sortsAll_10 11 rfl rfl rfl hcI 3 rfl (by omega) (by decide) [[(h0, .inr (6, [.int (fd 0), .ref aS, .ref aZ, .ref aV, .int (fd 4), .ref aN, .int (fd 6), .ref aU, .int (fd 8), .int (fd 9), .int (fd 10), .ref aD, .int (fd 12), .int (fd 13), .int (fd 14), .long hh]))], [(aS, .inl (cI, 350, .inl (upd f2 3 (-1))))], wz_1] rfl ?_
  have hmf3 : k_MR (upd f2 3 (-1)) bx at0 ln (upd sc 3 (-1)) := k_MR_sc hm2 (by decide) (by decide)
  have haf3 : at0 < 12 := hat2
  have hQf3 : k_isQ cI aS bx at0 ln (upd sc 3 (-1)) [(aS, .inl (cI, 350, .inl (upd f2 3 (-1))))] := ⟨haf3, hok2, hlok2, _, hmf3, rfl⟩
  refine q_aload_n C dX7_sortsAll_11 12 0 rfl rfl ?_
  refine q_iconst (v := nI 0) C dX7_sortsAll_12 13 rfl (by decide) ?_
  refine q_put (k := 0) (j := 0) (f := 13) C hinX7 tyX7 tyX7_ok nmX7 f213 (fun _ h => h) (by decide) rfl rfl (tyX7_ok 13 (by decide)) rfl rfl dX7_sortsAll_13 16 rfl rfl rfl (Nat.le_of_ble_eq_true rfl) [[(h0, .inr (6, [.int (fd 0), .ref aS, .ref aZ, .ref aV, .int (fd 4), .ref aN, .int (fd 6), .ref aU, .int (fd 8), .int (fd 9), .int (fd 10), .ref aD, .int (fd 12), .int (nI 0), .int (fd 14), .long hh]))], [(aS, .inl (cI, 350, .inl (upd f2 3 (-1))))], wz_1] rfl ?_
  have hPp4 : k_isP cI h0 aS aZ aV aN aU aD (upd fd 13 (nI 0)) hh [(h0, .inr (6, [.int (fd 0), .ref aS, .ref aZ, .ref aV, .int (fd 4), .ref aN, .int (fd 6), .ref aU, .int (fd 8), .int (fd 9), .int (fd 10), .ref aD, .int (fd 12), .int (nI 0), .int (fd 14), .long hh]))] := rfl
  refine q_iconst (v := nI 0) C dX7_sortsAll_16 17 rfl (by decide) ?_
  refine q_istore_n C dX7_sortsAll_17 18 rfl [(1, .int (nI 0)), (0, .ref h0)] (by decide) rfl ?_
  refine q_iconst (v := nI 0) C dX7_sortsAll_18 19 rfl (by decide) ?_
  refine q_istore_n C dX7_sortsAll_19 20 rfl [(2, .int (nI 0)), (1, .int (nI 0)), (0, .ref h0)] (by decide) rfl ?_
  have lp : ∀ (kk : Nat) (t : Nat) (q : Nat) (n : Nat) (wb : va_W), 877 - t < kk → ∀ (ht : t ≤ 876), ∀ (hn : n = k_lm bx at0 (-1) t), ∀ (hqn : q + n = t), ∀ (hu : ∀ u, u < t → u - k_lm bx at0 (-1) u < 12), ∀ (hwb : k_isQ cI aS ((k_bs bx at0 (-1) t).1) ((k_bs bx at0 (-1) t).2) ln (k_psc bx at0 (upd sc 3 (-1)) t) wb), q_V p9 l e9 R s9 m9 args below meth c9 D A 4 Q 0 0 20 [(1, .int (nI t)), (2, .int (nI q)), (0, .ref h0)] [] [[(h0, .inr (6, [.int (fd 0), .ref aS, .ref aZ, .ref aV, .int (fd 4), .ref aN, .int (fd 6), .ref aU, .int (fd 8), .int (fd 9), .int (fd 10), .ref aD, .int (fd 12), .int (nI n), .int (fd 14), .long hh]))], wb, wz_1] := by
    intro kk
    induction kk with
    | zero => intro t q n wb hkk; exact absurd hkk (Nat.not_lt_zero _)
    | succ kk ih_lp =>
      intro t q n wb hkk ht hn hqn hu hwb
      refine q_iload_n C dX7_sortsAll_20 21 1 rfl rfl ?_
      refine q_bipush (v := nI 12) C dX7_sortsAll_21 23 rfl (by decide) ?_
      refine q_icmp_ge C dX7_sortsAll_23 26 65 rfl (by decide) (nI_leI (by omega) (by omega)) (fun h23 => ?_) (fun h23 => ?_)
      · have hPl : k_isP cI h0 aS aZ aV aN aU aD (upd fd 13 (nI n)) hh [(h0, .inr (6, [.int (fd 0), .ref aS, .ref aZ, .ref aV, .int (fd 4), .ref aN, .int (fd 6), .ref aU, .int (fd 8), .int (fd 9), .int (fd 10), .ref aD, .int (fd 12), .int (nI n), .int (fd 14), .long hh]))] := rfl
        have hT : k_T bx at0 = t := k_T_eq (by omega) (by rw [← hn]; omega) hu
        refine q_aload_n C dX7_sortsAll_65 66 2 rfl rfl ?_
        refine q_aload_n C dX7_sortsAll_66 67 2 rfl rfl ?_
        refine q_callV (k := 0) (ci := 6) (n := 0) (rest := [.ref h0]) (Rr := [wz_1]) C rfl (k_isP_recv hPl) rfl (c_X7_wrong l hZ hI h0 aS aZ aV aN aU aD (upd fd 13 (nI n)) hh ([(h0, .inr (6, [.int (fd 0), .ref aS, .ref aZ, .ref aV, .int (fd 4), .ref aN, .int (fd 6), .ref aU, .int (fd 8), .int (fd 9), .int (fd 10), .ref aD, .int (fd 12), .int (nI n), .int (fd 14), .long hh]))]) hPl ((k_bs bx at0 (-1) t).1) ((k_bs bx at0 (-1) t).2) ln (k_psc bx at0 (upd sc 3 (-1)) t) wb hwb) gX7_sortsAll_X7_wrong rfl rfl rfl (by decide +kernel) B.1 ⟨Nat.le_of_ble_eq_true rfl, Nat.le_of_ble_eq_true rfl⟩ rfl rfl (Nat.le_of_ble_eq_true rfl) dX7_sortsAll_67 ⟨Nat.le_of_ble_eq_true rfl, Nat.le_of_ble_eq_true rfl⟩ [0, 1] [2] (by decide : ([0, 1] ++ ([2] : List Nat)).Perm (List.range 3)) rfl rfl 70 rfl (fun v0 R0 t0 ht0 hp0 => ?_)
        obtain ⟨rfl, rfl⟩ := hp0
        refine q_eqs (st' := [.int (nI (k_wr ((k_bs bx at0 (-1) t).1))), .ref h0]) rfl ?_
        refine q_eqR (Rs' := [[(h0, .inr (6, [.int (fd 0), .ref aS, .ref aZ, .ref aV, .int (fd 4), .ref aN, .int (fd 6), .ref aU, .int (fd 8), .int (fd 9), .int (fd 10), .ref aD, .int (fd 12), .int (nI n), .int (fd 14), .long hh]))], wb, wz_1]) rfl ?_
        refine q_put (k := 0) (j := 0) (f := 14) C hinX7 tyX7 tyX7_ok nmX7 f216 (fun _ h => h) (by decide) rfl rfl (tyX7_ok 14 (by decide)) rfl rfl dX7_sortsAll_70 73 rfl rfl rfl (Nat.le_of_ble_eq_true rfl) [[(h0, .inr (6, [.int (fd 0), .ref aS, .ref aZ, .ref aV, .int (fd 4), .ref aN, .int (fd 6), .ref aU, .int (fd 8), .int (fd 9), .int (fd 10), .ref aD, .int (fd 12), .int (nI n), .int (nI (k_wr ((k_bs bx at0 (-1) t).1))), .long hh]))], wb, wz_1] rfl ?_
        have hPp5 : k_isP cI h0 aS aZ aV aN aU aD (upd (upd fd 13 (nI n)) 14 (nI (k_wr ((k_bs bx at0 (-1) t).1)))) hh [(h0, .inr (6, [.int (fd 0), .ref aS, .ref aZ, .ref aV, .int (fd 4), .ref aN, .int (fd 6), .ref aU, .int (fd 8), .int (fd 9), .int (fd 10), .ref aD, .int (fd 12), .int (nI n), .int (nI (k_wr ((k_bs bx at0 (-1) t).1))), .long hh]))] := rfl
        refine q_aload_n C dX7_sortsAll_73 74 2 rfl rfl ?_
        refine q_callV (k := 0) (ci := 6) (n := 0) (rest := []) (Rr := []) C rfl (k_isP_recv hPp5) rfl (c_X7_takeBack l hZ hI h0 aS aZ aV aN aU aD (upd (upd fd 13 (nI n)) 14 (nI (k_wr ((k_bs bx at0 (-1) t).1)))) hh ([(h0, .inr (6, [.int (fd 0), .ref aS, .ref aZ, .ref aV, .int (fd 4), .ref aN, .int (fd 6), .ref aU, .int (fd 8), .int (fd 9), .int (fd 10), .ref aD, .int (fd 12), .int (nI n), .int (nI (k_wr ((k_bs bx at0 (-1) t).1))), .long hh]))]) hPp5 ((k_bs bx at0 (-1) t).1) ((k_bs bx at0 (-1) t).2) ln (k_psc bx at0 (upd sc 3 (-1)) t) wb hwb bx at0 ln sc wz_1 hwz_1) gX7_sortsAll_X7_takeBack rfl rfl rfl (by decide +kernel) B.1 ⟨Nat.le_of_ble_eq_true rfl, Nat.le_of_ble_eq_true rfl⟩ rfl rfl (Nat.le_of_ble_eq_true rfl) dX7_sortsAll_74 ⟨Nat.le_of_ble_eq_true rfl, Nat.le_of_ble_eq_true rfl⟩ [0, 1, 2] [] (by decide : ([0, 1, 2] ++ ([] : List Nat)).Perm (List.range 3)) rfl rfl 77 rfl (fun v0 R0 t0 ht0 hp0 => ?_)
        obtain ⟨rfl, wQ_74, hwQ_74, rfl⟩ := hp0
        refine q_eqs (st' := []) rfl ?_
        refine q_eqR (Rs' := [[(h0, .inr (6, [.int (fd 0), .ref aS, .ref aZ, .ref aV, .int (fd 4), .ref aN, .int (fd 6), .ref aU, .int (fd 8), .int (fd 9), .int (fd 10), .ref aD, .int (fd 12), .int (nI n), .int (nI (k_wr ((k_bs bx at0 (-1) t).1))), .long hh]))], wQ_74, wz_1]) rfl ?_
        exact q_vret C B dX7_sortsAll_77 rfl rfl (fun t0 ht0 => ⟨rfl, _, by rw [hT, ← hn]; exact hPp5, _, hwQ_74, _, hwz_1, rfl⟩)
      · have hPl : k_isP cI h0 aS aZ aV aN aU aD (upd fd 13 (nI n)) hh [(h0, .inr (6, [.int (fd 0), .ref aS, .ref aZ, .ref aV, .int (fd 4), .ref aN, .int (fd 6), .ref aU, .int (fd 8), .int (fd 9), .int (fd 10), .ref aD, .int (fd 12), .int (nI n), .int (fd 14), .long hh]))] := rfl
        have hend := k_lm_end hok hat hty t hu (by rw [← hn]; omega)
        refine q_iinc (v := nI (t + 1)) C dX7_sortsAll_26 29 0 rfl rfl (q_ninc1 (by omega)) [(1, .int (nI (t + 1))), (2, .int (nI q)), (0, .ref h0)] (by decide) rfl ?_
        refine q_aload_n C dX7_sortsAll_29 30 2 rfl rfl ?_
        refine q_callV (k := 0) (ci := 6) (n := 0) (rest := []) (Rr := [wz_1]) C rfl (k_isP_recv hPl) rfl (c_X7_beatsOnce l hZ hI h0 aS aZ aV aN aU aD (upd fd 13 (nI n)) hh ([(h0, .inr (6, [.int (fd 0), .ref aS, .ref aZ, .ref aV, .int (fd 4), .ref aN, .int (fd 6), .ref aU, .int (fd 8), .int (fd 9), .int (fd 10), .ref aD, .int (fd 12), .int (nI n), .int (fd 14), .long hh]))]) hPl ((k_bs bx at0 (-1) t).1) ((k_bs bx at0 (-1) t).2) ln (k_psc bx at0 (upd sc 3 (-1)) t) wb hwb) gX7_sortsAll_X7_beatsOnce rfl rfl rfl (by decide +kernel) B.1 ⟨Nat.le_of_ble_eq_true rfl, Nat.le_of_ble_eq_true rfl⟩ rfl rfl (Nat.le_of_ble_eq_true rfl) dX7_sortsAll_30 ⟨Nat.le_of_ble_eq_true rfl, Nat.le_of_ble_eq_true rfl⟩ [0, 1] [2] (by decide : ([0, 1] ++ ([2] : List Nat)).Perm (List.range 3)) rfl rfl 33 rfl (fun v0 R0 t0 ht0 hp0 => ?_)
        obtain ⟨rfl, wQ_30, hwQ_30, rfl⟩ := hp0
        refine q_eqs (st' := [.int (q_b (k_mv ((k_bs bx at0 (-1) t).1) ((k_bs bx at0 (-1) t).2) ((k_psc bx at0 (upd sc 3 (-1)) t) 3)))]) rfl ?_
        refine q_eqR (Rs' := [[(h0, .inr (6, [.int (fd 0), .ref aS, .ref aZ, .ref aV, .int (fd 4), .ref aN, .int (fd 6), .ref aU, .int (fd 8), .int (fd 9), .int (fd 10), .ref aD, .int (fd 12), .int (nI n), .int (fd 14), .long hh]))], wQ_30, wz_1]) rfl ?_
        refine q_istore_n C dX7_sortsAll_33 34 rfl [(3, .int (q_b (k_mv ((k_bs bx at0 (-1) t).1) ((k_bs bx at0 (-1) t).2) ((k_psc bx at0 (upd sc 3 (-1)) t) 3)))), (1, .int (nI (t + 1))), (2, .int (nI q)), (0, .ref h0)] (by decide) rfl ?_
        refine q_iload_n C dX7_sortsAll_34 35 0 rfl rfl ?_
        refine q_if_eq (P := k_mv ((k_bs bx at0 (-1) t).1) ((k_bs bx at0 (-1) t).2) ((k_psc bx at0 (upd sc 3 (-1)) t) 3) = false) C dX7_sortsAll_35 38 42 rfl (by decide) q_b0 (fun h35 => ?_) (fun h35 => ?_)
        · refine q_iload_n C dX7_sortsAll_42 43 2 rfl rfl ?_
          refine q_iconst (v := nI 1) C dX7_sortsAll_43 44 rfl (by decide) ?_
          refine q_iadd (v := nI (q + 1)) C dX7_sortsAll_44 45 rfl (q_nadd (by omega)) ?_
          refine q_istore_n C dX7_sortsAll_45 46 rfl [(2, .int (nI (q + 1))), (3, .int (q_b (k_mv ((k_bs bx at0 (-1) t).1) ((k_bs bx at0 (-1) t).2) ((k_psc bx at0 (upd sc 3 (-1)) t) 3)))), (1, .int (nI (t + 1))), (0, .ref h0)] (by decide) rfl ?_
          refine q_aload_n C dX7_sortsAll_46 47 3 rfl rfl ?_
          refine q_iload_n C dX7_sortsAll_47 48 1 rfl rfl ?_
          refine q_if_eq (P := k_mv ((k_bs bx at0 (-1) t).1) ((k_bs bx at0 (-1) t).2) ((k_psc bx at0 (upd sc 3 (-1)) t) 3) = false) C dX7_sortsAll_48 51 55 rfl (by decide) q_b0 (fun h48 => ?_) (fun h48 => False.elim (by first | omega | simp_all))
          refine q_aload_n C dX7_sortsAll_55 56 3 rfl rfl ?_
          refine q_get (k := 0) (j := 0) (f := 13) C hinX7 f213 (fun _ h => h) (by decide) rfl dX7_sortsAll_56 59 rfl rfl rfl rfl ?_
          refine q_put (k := 0) (j := 0) (f := 13) C hinX7 tyX7 tyX7_ok nmX7 f213 (fun _ h => h) (by decide) rfl rfl (tyX7_ok 13 (by decide)) rfl rfl dX7_sortsAll_59 62 rfl rfl rfl (Nat.le_of_ble_eq_true rfl) [[(h0, .inr (6, [.int (fd 0), .ref aS, .ref aZ, .ref aV, .int (fd 4), .ref aN, .int (fd 6), .ref aU, .int (fd 8), .int (fd 9), .int (fd 10), .ref aD, .int (fd 12), .int (nI n), .int (fd 14), .long hh]))], wQ_30, wz_1] rfl ?_
          have hPp6 : k_isP cI h0 aS aZ aV aN aU aD (upd (upd fd 13 (nI n)) 13 (nI n)) hh [(h0, .inr (6, [.int (fd 0), .ref aS, .ref aZ, .ref aV, .int (fd 4), .ref aN, .int (fd 6), .ref aU, .int (fd 8), .int (fd 9), .int (fd 10), .ref aD, .int (fd 12), .int (nI n), .int (fd 14), .long hh]))] := rfl
          refine q_goto C dX7_sortsAll_62 20 (by decide) ?_
          refine q_sub (L' := [(1, .int (nI (t + 1))), (2, .int (nI (q + 1))), (0, .ref h0)]) [2, 0, 3] rfl ?_
          exact ih_lp (t + 1) (q + 1) n wQ_30 (by omega) (by omega) (by rw [k_lm_f (by rw [k_psc_3, pk_us] at h35; simpa [k_bm] using h35)]; exact hn) (by omega) (fun u hq => (Decidable.em (u = t)).elim (fun e => by subst e; rw [← hn]; omega) (fun e => hu u (by omega))) (by have hz := hwQ_30; have e := k_psc_s (bx := bx) (a := at0) (sc := upd sc 3 (-1)) (n := t); rw [pk_us] at e; rw [k_psc_3, pk_us, e] at hz; exact hz)
        · refine q_iconst (v := nI 0) C dX7_sortsAll_38 39 rfl (by decide) ?_
          refine q_goto C dX7_sortsAll_39 45 (by decide) ?_
          refine q_istore_n C dX7_sortsAll_45 46 rfl [(2, .int (nI 0)), (3, .int (q_b (k_mv ((k_bs bx at0 (-1) t).1) ((k_bs bx at0 (-1) t).2) ((k_psc bx at0 (upd sc 3 (-1)) t) 3)))), (1, .int (nI (t + 1))), (0, .ref h0)] (by decide) rfl ?_
          refine q_aload_n C dX7_sortsAll_46 47 3 rfl rfl ?_
          refine q_iload_n C dX7_sortsAll_47 48 1 rfl rfl ?_
          refine q_if_eq (P := k_mv ((k_bs bx at0 (-1) t).1) ((k_bs bx at0 (-1) t).2) ((k_psc bx at0 (upd sc 3 (-1)) t) 3) = false) C dX7_sortsAll_48 51 55 rfl (by decide) q_b0 (fun h48 => False.elim (by first | omega | simp_all)) (fun h48 => ?_)
          refine q_iload_n C dX7_sortsAll_51 52 2 rfl rfl ?_
          refine q_goto C dX7_sortsAll_52 59 (by decide) ?_
          refine q_put (k := 0) (j := 0) (f := 13) C hinX7 tyX7 tyX7_ok nmX7 f213 (fun _ h => h) (by decide) rfl rfl (tyX7_ok 13 (by decide)) rfl rfl dX7_sortsAll_59 62 rfl rfl rfl (Nat.le_of_ble_eq_true rfl) [[(h0, .inr (6, [.int (fd 0), .ref aS, .ref aZ, .ref aV, .int (fd 4), .ref aN, .int (fd 6), .ref aU, .int (fd 8), .int (fd 9), .int (fd 10), .ref aD, .int (fd 12), .int (nI (t + 1)), .int (fd 14), .long hh]))], wQ_30, wz_1] rfl ?_
          have hPp7 : k_isP cI h0 aS aZ aV aN aU aD (upd (upd fd 13 (nI n)) 13 (nI (t + 1))) hh [(h0, .inr (6, [.int (fd 0), .ref aS, .ref aZ, .ref aV, .int (fd 4), .ref aN, .int (fd 6), .ref aU, .int (fd 8), .int (fd 9), .int (fd 10), .ref aD, .int (fd 12), .int (nI (t + 1)), .int (fd 14), .long hh]))] := rfl
          refine q_goto C dX7_sortsAll_62 20 (by decide) ?_
          refine q_sub (L' := [(1, .int (nI (t + 1))), (2, .int (nI 0)), (0, .ref h0)]) [2, 0, 3] rfl ?_
          exact ih_lp (t + 1) 0 (t + 1) wQ_30 (by omega) (by omega) (by rw [k_lm_t (by rw [k_psc_3, pk_us] at h35; simpa [k_bm] using h35)]) (by omega) (fun u hq => (Decidable.em (u = t)).elim (fun e => by subst e; rw [← hn]; omega) (fun e => hu u (by omega))) (by have hz := hwQ_30; have e := k_psc_s (bx := bx) (a := at0) (sc := upd sc 3 (-1)) (n := t); rw [pk_us] at e; rw [k_psc_3, pk_us, e] at hz; exact hz)
  refine q_sub (L' := [(1, .int (nI 0)), (2, .int (nI 0)), (0, .ref h0)]) [1, 0, 2] rfl ?_
  exact lp _ 0 0 0 ([(aS, .inl (cI, 350, .inl (upd f2 3 (-1))))]) (Nat.lt_succ_self _) (by omega) rfl (by omega) (fun u hu => absurd hu (Nat.not_lt_zero u)) (by rw [k_psc_0]; exact hQf3)

set_option maxHeartbeats 400000 in
set_option maxRecDepth 100000 in
theorem c_X7_sortedIn (l : Launch) {D : va_G} {tys : List (ClassId × FieldType)} {Z : (Nat → Prop) → State → Heap → Prop} (hZ : q_St Z) {cI : ClassId} (hI : tys[0]? = some (cI, .int)) (h0 : Nat) (aS : Nat) (aZ : Nat) (aV : Nat) (aN : Nat) (aU : Nat) (aD : Nat) (fd : Nat → Int32) (hh : Int64) (wP : va_W) (hP : k_isP cI h0 aS aZ aV aN aU aD fd hh wP) (bx : k_Bx) (at0 : Nat) (ln : List (Nat × Nat)) (sc : Nat → Int32) (wQ : va_W) (hQ : k_isQ cI aS bx at0 ln sc wQ) (zbx : k_Bx) (zat0 : Nat) (zln : List (Nat × Nat)) (zsc : Nat → Int32) (zw : va_W) (zh : k_isQ cI aZ zbx zat0 zln zsc zw) (hty : k_ty bx ≤ 72) : q_Ct l D tys Z yX7_sortedIn wsX7_sortedIn ({ frames := 6, cells := 0, slots := 0, locals := 192 } : Room) 0 0 [.ref h0] [wP, wQ, zw] (fun v0 R0 _ => v0 = some (.int (nI (k_lm bx at0 (-1) (k_T bx at0)))) ∧ ∃ wP', k_isP cI h0 aS aZ aV aN aU aD (upd (upd (upd fd 0 (nI 0)) 13 (nI (k_lm bx at0 (-1) (k_T bx at0)))) 14 (nI (k_wr (k_bs bx at0 (-1) (k_T bx at0)).1))) hh wP' ∧ ∃ wQ', k_isQ cI aS bx at0 ln sc wQ' ∧ ∃ zw', k_isQ cI aZ bx at0 ln sc zw' ∧ R0 = [wP', wQ', zw']) := by
  have hcI := hI
  refine q_ct (cc := cX7_sortedIn) (maxL := 1) (ret := (some .int)) (own := RX7) (by decide) rfl hZ (Nat.le_of_ble_eq_true rfl) rfl ?_
  intro p9 e9 R s9 m9 args below meth c9 A Q C B
  have hts := C.2.2.2.2.1
  have hinX7 : ∀ w ∈ u_ws RX7 TX7 16, w ∈ wsX7_sortedIn := by decide +kernel
  have f28 := hts (.fieldLink RX7 28 "SortCasesModel" "thrown" "I") (by decide +kernel)
  have f213 := hts (.fieldLink RX7 213 "SortCasesModel" "lastMove" "I") (by decide +kernel)
  refine q_eqL (L' := [(0, .ref h0)]) rfl ?_
  refine q_aload_n C dX7_sortedIn_0 1 0 rfl rfl ?_
  refine q_iconst (v := nI 0) C dX7_sortedIn_1 2 rfl (by decide) ?_
  obtain rfl := hP
  have hPo1 : k_isP cI h0 aS aZ aV aN aU aD fd hh [(h0, .inr (6, [.int (fd 0), .ref aS, .ref aZ, .ref aV, .int (fd 4), .ref aN, .int (fd 6), .ref aU, .int (fd 8), .int (fd 9), .int (fd 10), .ref aD, .int (fd 12), .int (fd 13), .int (fd 14), .long hh]))] := rfl
  refine q_put (k := 0) (j := 0) (f := 0) C hinX7 tyX7 tyX7_ok nmX7 f28 (fun _ h => h) (by decide) rfl rfl (tyX7_ok 0 (by decide)) rfl rfl dX7_sortedIn_2 5 rfl rfl rfl (Nat.le_of_ble_eq_true rfl) [[(h0, .inr (6, [.int (nI 0), .ref aS, .ref aZ, .ref aV, .int (fd 4), .ref aN, .int (fd 6), .ref aU, .int (fd 8), .int (fd 9), .int (fd 10), .ref aD, .int (fd 12), .int (fd 13), .int (fd 14), .long hh]))], wQ, zw] rfl ?_
  have hPp2 : k_isP cI h0 aS aZ aV aN aU aD (upd fd 0 (nI 0)) hh [(h0, .inr (6, [.int (nI 0), .ref aS, .ref aZ, .ref aV, .int (fd 4), .ref aN, .int (fd 6), .ref aU, .int (fd 8), .int (fd 9), .int (fd 10), .ref aD, .int (fd 12), .int (fd 13), .int (fd 14), .long hh]))] := rfl
  refine q_aload_n C dX7_sortedIn_5 6 0 rfl rfl ?_
  refine q_callV (k := 0) (ci := 6) (n := 0) (rest := []) (Rr := []) C rfl (k_isP_recv hPp2) rfl (c_X7_sortsAll l hZ hI h0 aS aZ aV aN aU aD (upd fd 0 (nI 0)) hh ([(h0, .inr (6, [.int (nI 0), .ref aS, .ref aZ, .ref aV, .int (fd 4), .ref aN, .int (fd 6), .ref aU, .int (fd 8), .int (fd 9), .int (fd 10), .ref aD, .int (fd 12), .int (fd 13), .int (fd 14), .long hh]))]) hPp2 bx at0 ln sc wQ hQ zbx zat0 zln zsc zw zh (by omega)) gX7_sortedIn_X7_sortsAll rfl rfl rfl (by decide +kernel) B.1 ⟨Nat.le_of_ble_eq_true rfl, Nat.le_of_ble_eq_true rfl⟩ rfl rfl (Nat.le_of_ble_eq_true rfl) dX7_sortedIn_6 ⟨Nat.le_of_ble_eq_true rfl, Nat.le_of_ble_eq_true rfl⟩ [0, 1, 2] [] (by decide : ([0, 1, 2] ++ ([] : List Nat)).Perm (List.range 3)) rfl rfl 9 rfl (fun v0 R0 t0 ht0 hp0 => ?_)
  obtain ⟨rfl, wP_6, hwP_6, wQ_6, hwQ_6, wz_6, hwz_6, rfl⟩ := hp0
  refine q_eqs (st' := []) rfl ?_
  refine q_eqR (Rs' := [wP_6, wQ_6, wz_6]) rfl ?_
  refine q_aload_n C dX7_sortedIn_9 10 0 rfl rfl ?_
  obtain rfl := hwP_6
  have hPo3 : k_isP cI h0 aS aZ aV aN aU aD (upd (upd (upd fd 0 (nI 0)) 13 (nI (k_lm bx at0 (-1) (k_T bx at0)))) 14 (nI (k_wr (k_bs bx at0 (-1) (k_T bx at0)).1))) hh [(h0, .inr (6, [.int (nI 0), .ref aS, .ref aZ, .ref aV, .int (fd 4), .ref aN, .int (fd 6), .ref aU, .int (fd 8), .int (fd 9), .int (fd 10), .ref aD, .int (fd 12), .int (nI ((k_lm bx at0 (-1) (k_T bx at0)))), .int (nI ((k_wr (k_bs bx at0 (-1) (k_T bx at0)).1))), .long hh]))] := rfl
  refine q_get (k := 0) (j := 0) (f := 13) C hinX7 f213 (fun _ h => h) (by decide) rfl dX7_sortedIn_10 13 rfl rfl rfl rfl ?_
  exact q_iret C B dX7_sortedIn_13 rfl rfl (fun t0 ht0 => ⟨rfl, _, hPo3, _, hwQ_6, _, hwz_6, by first | rfl | simp⟩)

set_option maxHeartbeats 400000 in
set_option maxRecDepth 100000 in
theorem c_X7_wrongThen (l : Launch) {D : va_G} {tys : List (ClassId × FieldType)} {Z : (Nat → Prop) → State → Heap → Prop} (hZ : q_St Z) {cI : ClassId} (hI : tys[0]? = some (cI, .int)) (h0 : Nat) (aS : Nat) (aZ : Nat) (aV : Nat) (aN : Nat) (aU : Nat) (aD : Nat) (fd : Nat → Int32) (hh : Int64) (wP : va_W) (hP : k_isP cI h0 aS aZ aV aN aU aD fd hh wP) (bx : k_Bx) (at0 : Nat) (ln : List (Nat × Nat)) (sc : Nat → Int32) (wQ : va_W) (hQ : k_isQ cI aS bx at0 ln sc wQ) (zbx : k_Bx) (zat0 : Nat) (zln : List (Nat × Nat)) (zsc : Nat → Int32) (zw : va_W) (zh : k_isQ cI aZ zbx zat0 zln zsc zw) (hty : k_ty bx ≤ 72) : q_Ct l D tys Z yX7_wrongThen wsX7_wrongThen ({ frames := 6, cells := 0, slots := 0, locals := 192 } : Room) 0 0 [.ref h0] [wP, wQ, zw] (fun v0 R0 _ => v0 = some (.int (nI (k_wr (k_bs bx at0 (-1) (k_T bx at0)).1))) ∧ ∃ wP', k_isP cI h0 aS aZ aV aN aU aD (upd (upd (upd fd 0 (nI 0)) 13 (nI (k_lm bx at0 (-1) (k_T bx at0)))) 14 (nI (k_wr (k_bs bx at0 (-1) (k_T bx at0)).1))) hh wP' ∧ ∃ wQ', k_isQ cI aS bx at0 ln sc wQ' ∧ ∃ zw', k_isQ cI aZ bx at0 ln sc zw' ∧ R0 = [wP', wQ', zw']) := by
  have hcI := hI
  refine q_ct (cc := cX7_wrongThen) (maxL := 1) (ret := (some .int)) (own := RX7) (by decide) rfl hZ (Nat.le_of_ble_eq_true rfl) rfl ?_
  intro p9 e9 R s9 m9 args below meth c9 A Q C B
  have hts := C.2.2.2.2.1
  have hinX7 : ∀ w ∈ u_ws RX7 TX7 16, w ∈ wsX7_wrongThen := by decide +kernel
  have f28 := hts (.fieldLink RX7 28 "SortCasesModel" "thrown" "I") (by decide +kernel)
  have f216 := hts (.fieldLink RX7 216 "SortCasesModel" "wrongBehind" "I") (by decide +kernel)
  refine q_eqL (L' := [(0, .ref h0)]) rfl ?_
  refine q_aload_n C dX7_wrongThen_0 1 0 rfl rfl ?_
  refine q_iconst (v := nI 0) C dX7_wrongThen_1 2 rfl (by decide) ?_
  obtain rfl := hP
  have hPo1 : k_isP cI h0 aS aZ aV aN aU aD fd hh [(h0, .inr (6, [.int (fd 0), .ref aS, .ref aZ, .ref aV, .int (fd 4), .ref aN, .int (fd 6), .ref aU, .int (fd 8), .int (fd 9), .int (fd 10), .ref aD, .int (fd 12), .int (fd 13), .int (fd 14), .long hh]))] := rfl
  refine q_put (k := 0) (j := 0) (f := 0) C hinX7 tyX7 tyX7_ok nmX7 f28 (fun _ h => h) (by decide) rfl rfl (tyX7_ok 0 (by decide)) rfl rfl dX7_wrongThen_2 5 rfl rfl rfl (Nat.le_of_ble_eq_true rfl) [[(h0, .inr (6, [.int (nI 0), .ref aS, .ref aZ, .ref aV, .int (fd 4), .ref aN, .int (fd 6), .ref aU, .int (fd 8), .int (fd 9), .int (fd 10), .ref aD, .int (fd 12), .int (fd 13), .int (fd 14), .long hh]))], wQ, zw] rfl ?_
  have hPp2 : k_isP cI h0 aS aZ aV aN aU aD (upd fd 0 (nI 0)) hh [(h0, .inr (6, [.int (nI 0), .ref aS, .ref aZ, .ref aV, .int (fd 4), .ref aN, .int (fd 6), .ref aU, .int (fd 8), .int (fd 9), .int (fd 10), .ref aD, .int (fd 12), .int (fd 13), .int (fd 14), .long hh]))] := rfl
  refine q_aload_n C dX7_wrongThen_5 6 0 rfl rfl ?_
  refine q_callV (k := 0) (ci := 6) (n := 0) (rest := []) (Rr := []) C rfl (k_isP_recv hPp2) rfl (c_X7_sortsAll l hZ hI h0 aS aZ aV aN aU aD (upd fd 0 (nI 0)) hh ([(h0, .inr (6, [.int (nI 0), .ref aS, .ref aZ, .ref aV, .int (fd 4), .ref aN, .int (fd 6), .ref aU, .int (fd 8), .int (fd 9), .int (fd 10), .ref aD, .int (fd 12), .int (fd 13), .int (fd 14), .long hh]))]) hPp2 bx at0 ln sc wQ hQ zbx zat0 zln zsc zw zh (by omega)) gX7_wrongThen_X7_sortsAll rfl rfl rfl (by decide +kernel) B.1 ⟨Nat.le_of_ble_eq_true rfl, Nat.le_of_ble_eq_true rfl⟩ rfl rfl (Nat.le_of_ble_eq_true rfl) dX7_wrongThen_6 ⟨Nat.le_of_ble_eq_true rfl, Nat.le_of_ble_eq_true rfl⟩ [0, 1, 2] [] (by decide : ([0, 1, 2] ++ ([] : List Nat)).Perm (List.range 3)) rfl rfl 9 rfl (fun v0 R0 t0 ht0 hp0 => ?_)
  obtain ⟨rfl, wP_6, hwP_6, wQ_6, hwQ_6, wz_6, hwz_6, rfl⟩ := hp0
  refine q_eqs (st' := []) rfl ?_
  refine q_eqR (Rs' := [wP_6, wQ_6, wz_6]) rfl ?_
  refine q_aload_n C dX7_wrongThen_9 10 0 rfl rfl ?_
  obtain rfl := hwP_6
  have hPo3 : k_isP cI h0 aS aZ aV aN aU aD (upd (upd (upd fd 0 (nI 0)) 13 (nI (k_lm bx at0 (-1) (k_T bx at0)))) 14 (nI (k_wr (k_bs bx at0 (-1) (k_T bx at0)).1))) hh [(h0, .inr (6, [.int (nI 0), .ref aS, .ref aZ, .ref aV, .int (fd 4), .ref aN, .int (fd 6), .ref aU, .int (fd 8), .int (fd 9), .int (fd 10), .ref aD, .int (fd 12), .int (nI ((k_lm bx at0 (-1) (k_T bx at0)))), .int (nI ((k_wr (k_bs bx at0 (-1) (k_T bx at0)).1))), .long hh]))] := rfl
  refine q_get (k := 0) (j := 0) (f := 14) C hinX7 f216 (fun _ h => h) (by decide) rfl dX7_wrongThen_10 13 rfl rfl rfl rfl ?_
  exact q_iret C B dX7_wrongThen_13 rfl rfl (fun t0 ht0 => ⟨rfl, _, hPo3, _, hwQ_6, _, hwz_6, by first | rfl | simp⟩)
