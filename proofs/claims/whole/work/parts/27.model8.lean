set_option maxHeartbeats 400000 in
set_option maxRecDepth 100000 in
theorem c_X7_sign (l : Launch) {D : va_G} {tys : List (ClassId × FieldType)} {Z : (Nat → Prop) → State → Heap → Prop} (hZ : q_St Z) {cI : ClassId} (hI : tys[0]? = some (cI, .int)) (h0 : Nat) (aS : Nat) (aZ : Nat) (aV : Nat) (aN : Nat) (aU : Nat) (aD : Nat) (fd : Nat → Int32) (hh : Int64) (wP : va_W) (hP : k_isP cI h0 aS aZ aV aN aU aD fd hh wP) (tx : List Nat) (wU : va_W) (hU : k_isU cI aU tx wU) (at9 : Nat) (q8 : fd 8 = nI tx.length) (q9 : fd 9 = nI at9) (ha : at9 ≤ 1000) : q_Ct l D tys Z yX7_sign wsX7_sign ({ frames := 1, cells := 0, slots := 0, locals := 42 } : Room) 0 0 [.ref h0] [wP, wU] (fun v0 R0 _ => v0 = some (.int (nI (k_sg tx at9))) ∧ R0 = [wP, wU]) := by
  have hcI := hI
  refine q_ct (cc := cX7_sign) (maxL := 1) (ret := (some .int)) (own := RX7) (by decide) rfl hZ (Nat.le_of_ble_eq_true rfl) rfl ?_
  intro p9 e9 R s9 m9 args below meth c9 A Q C B
  have hts := C.2.2.2.2.1
  have hinX7 : ∀ w ∈ u_ws RX7 TX7 16, w ∈ wsX7_sign := by decide +kernel
  have f132 := hts (.fieldLink RX7 132 "SortCasesModel" "at" "I") (by decide +kernel)
  have f129 := hts (.fieldLink RX7 129 "SortCasesModel" "length" "I") (by decide +kernel)
  have f22 := hts (.fieldLink RX7 22 "SortCasesModel" "buffer" "[I") (by decide +kernel)
  refine q_eqL (L' := [(0, .ref h0)]) rfl ?_
  obtain ⟨htk1, fu1, htr1, rfl⟩ := hU
  have htl1 := htk1.1
  have hUo1 : k_isU cI aU tx [(aU, .inl (cI, 60, .inl fu1))] := ⟨htk1, fu1, htr1, rfl⟩
  refine q_aload_n C dX7_sign_0 1 0 rfl rfl ?_
  obtain rfl := hP
  have hPo2 : k_isP cI h0 aS aZ aV aN aU aD fd hh [(h0, .inr (6, [.int (fd 0), .ref aS, .ref aZ, .ref aV, .int (fd 4), .ref aN, .int (fd 6), .ref aU, .int (fd 8), .int (fd 9), .int (fd 10), .ref aD, .int (fd 12), .int (fd 13), .int (fd 14), .long hh]))] := rfl
  refine q_get (k := 0) (j := 0) (f := 9) C hinX7 f132 (fun _ h => h) (by decide) rfl dX7_sign_1 4 rfl rfl rfl rfl ?_
  refine q_eqs (st' := [.int (nI at9)]) (by rw [q9]) ?_
  refine q_aload_n C dX7_sign_4 5 0 rfl rfl ?_
  refine q_get (k := 0) (j := 0) (f := 8) C hinX7 f129 (fun _ h => h) (by decide) rfl dX7_sign_5 8 rfl rfl rfl rfl ?_
  refine q_eqs (st' := [.int (nI tx.length), .int (nI at9)]) (by rw [q8]) ?_
  refine q_icmp_ge C dX7_sign_8 11 23 rfl (by decide) (nI_leI (by omega) (by omega)) (fun h8 => ?_) (fun h8 => ?_)
  · refine q_iconst (v := nI 0) C dX7_sign_23 24 rfl (by decide) ?_
    exact q_iret C B dX7_sign_24 rfl rfl (fun t0 ht0 => ⟨by rw [k_sg_out (by omega)], rfl⟩)
  · refine q_aload_n C dX7_sign_11 12 0 rfl rfl ?_
    refine q_get (k := 0) (j := 0) (f := 7) C hinX7 f22 (fun _ h => h) (by decide) rfl dX7_sign_12 15 rfl rfl rfl rfl ?_
    refine q_aload_n C dX7_sign_15 16 0 rfl rfl ?_
    refine q_get (k := 0) (j := 0) (f := 9) C hinX7 f132 (fun _ h => h) (by decide) rfl dX7_sign_16 19 rfl rfl rfl rfl ?_
    refine q_eqs (st' := [.int (nI at9), .ref aU]) (by rw [q9]) ?_
    refine q_iald (k := 1) (j := 0) (v := nI (k_at tx at9)) C dX7_sign_19 20 rfl rfl rfl hcI at9 rfl (by omega) (by decide) (htr1 at9 (by omega)) ?_
    have hux19_1 : k_at tx at9 ≤ 126 := (k_at_le htk1.2 (by omega)).2
    have huy19_2 : 33 ≤ k_at tx at9 := (k_at_le htk1.2 (by omega)).1
    refine q_goto C dX7_sign_20 24 (by decide) ?_
    exact q_iret C B dX7_sign_24 rfl rfl (fun t0 ht0 => ⟨by rw [k_sg_in (by omega)], rfl⟩)

set_option maxHeartbeats 400000 in
set_option maxRecDepth 100000 in
theorem c_X7_wants (l : Launch) {D : va_G} {tys : List (ClassId × FieldType)} {Z : (Nat → Prop) → State → Heap → Prop} (hZ : q_St Z) {cI : ClassId} (hI : tys[0]? = some (cI, .int)) (h0 : Nat) (aS : Nat) (aZ : Nat) (aV : Nat) (aN : Nat) (aU : Nat) (aD : Nat) (fd : Nat → Int32) (hh : Int64) (wP : va_W) (hP : k_isP cI h0 aS aZ aV aN aU aD fd hh wP) (tx : List Nat) (wU : va_W) (hU : k_isU cI aU tx wU) (z : Nat) (at9 : Nat) (ok9 : Bool) (q8 : fd 8 = nI tx.length) (q9 : fd 9 = nI at9) (q10 : fd 10 = q_b ok9) (ha : at9 ≤ 1000) (hz : z ≤ 126) : q_Ct l D tys Z yX7_wants wsX7_wants ({ frames := 2, cells := 0, slots := 0, locals := 72 } : Room) 0 0 [.ref h0, .int (nI z)] [wP, wU] (fun v0 R0 _ => v0 = none ∧ ∃ wP', k_isP cI h0 aS aZ aV aN aU aD (upd (upd fd 10 (q_b (k_wt tx z (at9, ok9)).2)) 9 (nI (k_wt tx z (at9, ok9)).1)) hh wP' ∧ R0 = [wP', wU]) := by
  have hcI := hI
  refine q_ct (cc := cX7_wants) (maxL := 2) (ret := none) (own := RX7) (by decide) rfl hZ (Nat.le_of_ble_eq_true rfl) rfl ?_
  intro p9 e9 R s9 m9 args below meth c9 A Q C B
  have hts := C.2.2.2.2.1
  have hinX7 : ∀ w ∈ u_ws RX7 TX7 16, w ∈ wsX7_wants := by decide +kernel
  have f135 := hts (.fieldLink RX7 135 "SortCasesModel" "isWell" "Z") (by decide +kernel)
  have f132 := hts (.fieldLink RX7 132 "SortCasesModel" "at" "I") (by decide +kernel)
  refine q_eqL (L' := [(0, .ref h0), (1, .int (nI z))]) rfl ?_
  refine q_aload_n C dX7_wants_0 1 0 rfl rfl ?_
  refine q_aload_n C dX7_wants_1 2 0 rfl rfl ?_
  obtain rfl := hP
  have hPo1 : k_isP cI h0 aS aZ aV aN aU aD fd hh [(h0, .inr (6, [.int (fd 0), .ref aS, .ref aZ, .ref aV, .int (fd 4), .ref aN, .int (fd 6), .ref aU, .int (fd 8), .int (fd 9), .int (fd 10), .ref aD, .int (fd 12), .int (fd 13), .int (fd 14), .long hh]))] := rfl
  refine q_get (k := 0) (j := 0) (f := 10) C hinX7 f135 (fun _ h => h) (by decide) rfl dX7_wants_2 5 rfl rfl rfl rfl ?_
  refine q_eqs (st' := [.int (q_b ok9), .ref h0]) (by rw [q10]) ?_
  refine q_if_eq (P := ok9 = false) C dX7_wants_5 8 20 rfl (by decide) q_b0 (fun h5 => ?_) (fun h5 => ?_)
  · refine q_iconst (v := nI 0) C dX7_wants_20 21 rfl (by decide) ?_
    refine q_put (k := 0) (j := 0) (f := 10) C hinX7 tyX7 tyX7_ok nmX7 f135 (fun _ h => h) (by decide) rfl rfl (tyX7_ok 10 (by decide)) (by decide) rfl dX7_wants_21 24 rfl rfl rfl (Nat.le_of_ble_eq_true rfl) [[(h0, .inr (6, [.int (fd 0), .ref aS, .ref aZ, .ref aV, .int (fd 4), .ref aN, .int (fd 6), .ref aU, .int (fd 8), .int (fd 9), .int (nI 0), .ref aD, .int (fd 12), .int (fd 13), .int (fd 14), .long hh]))], wU] rfl ?_
    have hPp2 : k_isP cI h0 aS aZ aV aN aU aD (upd fd 10 (nI 0)) hh [(h0, .inr (6, [.int (fd 0), .ref aS, .ref aZ, .ref aV, .int (fd 4), .ref aN, .int (fd 6), .ref aU, .int (fd 8), .int (fd 9), .int (nI 0), .ref aD, .int (fd 12), .int (fd 13), .int (fd 14), .long hh]))] := rfl
    refine q_aload_n C dX7_wants_24 25 0 rfl rfl ?_
    refine q_dup C dX7_wants_25 26 rfl rfl ?_
    refine q_get (k := 0) (j := 0) (f := 9) C hinX7 f132 (fun _ h => h) (by decide) rfl dX7_wants_26 29 rfl rfl rfl rfl ?_
    refine q_eqs (st' := [.int (nI at9), .ref h0]) (by rw [q9]) ?_
    refine q_aload_n C dX7_wants_29 30 0 rfl rfl ?_
    refine q_get (k := 0) (j := 0) (f := 10) C hinX7 f135 (fun _ h => h) (by decide) rfl dX7_wants_30 33 rfl rfl rfl rfl ?_
    refine q_if_eq C dX7_wants_33 36 40 rfl (by decide) (q_eq0 (by omega)) (fun h33 => ?_) (fun h33 => False.elim (by first | omega | simp_all))
    refine q_iconst (v := nI 0) C dX7_wants_40 41 rfl (by decide) ?_
    refine q_iadd (v := nI at9) C dX7_wants_41 42 rfl (q_nadd (by omega)) ?_
    refine q_put (k := 0) (j := 0) (f := 9) C hinX7 tyX7 tyX7_ok nmX7 f132 (fun _ h => h) (by decide) rfl rfl (tyX7_ok 9 (by decide)) rfl rfl dX7_wants_42 45 rfl rfl rfl (Nat.le_of_ble_eq_true rfl) [[(h0, .inr (6, [.int (fd 0), .ref aS, .ref aZ, .ref aV, .int (fd 4), .ref aN, .int (fd 6), .ref aU, .int (fd 8), .int (nI at9), .int (nI 0), .ref aD, .int (fd 12), .int (fd 13), .int (fd 14), .long hh]))], wU] rfl ?_
    have hPp3 : k_isP cI h0 aS aZ aV aN aU aD (upd (upd fd 10 (nI 0)) 9 (nI at9)) hh [(h0, .inr (6, [.int (fd 0), .ref aS, .ref aZ, .ref aV, .int (fd 4), .ref aN, .int (fd 6), .ref aU, .int (fd 8), .int (nI at9), .int (nI 0), .ref aD, .int (fd 12), .int (fd 13), .int (fd 14), .long hh]))] := rfl
    exact q_vret C B dX7_wants_45 rfl rfl (fun t0 ht0 => ⟨rfl, _, by rw [k_wt_f1 h5]; exact hPp3, rfl⟩)
  · refine q_aload_n C dX7_wants_8 9 0 rfl rfl ?_
    refine q_callV (k := 0) (ci := 6) (n := 0) (rest := [.ref h0]) (Rr := []) C rfl (k_isP_recv hPo1) rfl (c_X7_sign l hZ hI h0 aS aZ aV aN aU aD fd hh ([(h0, .inr (6, [.int (fd 0), .ref aS, .ref aZ, .ref aV, .int (fd 4), .ref aN, .int (fd 6), .ref aU, .int (fd 8), .int (fd 9), .int (fd 10), .ref aD, .int (fd 12), .int (fd 13), .int (fd 14), .long hh]))]) hPo1 tx wU hU at9 (by first | exact q8 | rfl) (by first | exact q9 | rfl) (by omega)) gX7_wants_X7_sign rfl rfl rfl (by decide +kernel) B.1 ⟨Nat.le_of_ble_eq_true rfl, Nat.le_of_ble_eq_true rfl⟩ rfl rfl (Nat.le_of_ble_eq_true rfl) dX7_wants_9 ⟨Nat.le_of_ble_eq_true rfl, Nat.le_of_ble_eq_true rfl⟩ [0, 1] [] (by decide : ([0, 1] ++ ([] : List Nat)).Perm (List.range 2)) rfl rfl 12 rfl (fun v0 R0 t0 ht0 hp0 => ?_)
    obtain ⟨rfl, rfl⟩ := hp0
    refine q_eqs (st' := [.int (nI (k_sg tx at9)), .ref h0]) rfl ?_
    refine q_eqR (Rs' := [[(h0, .inr (6, [.int (fd 0), .ref aS, .ref aZ, .ref aV, .int (fd 4), .ref aN, .int (fd 6), .ref aU, .int (fd 8), .int (fd 9), .int (fd 10), .ref aD, .int (fd 12), .int (fd 13), .int (fd 14), .long hh]))], wU]) rfl ?_
    have hs9 : k_sg tx at9 ≤ 126 := k_sg_le hU.1 _
    refine q_iload_n C dX7_wants_12 13 1 rfl rfl ?_
    refine q_icmp_ne C dX7_wants_13 16 20 rfl (by decide) (nI_eq (by omega) (by omega)) (fun h13 => ?_) (fun h13 => ?_)
    · refine q_iconst (v := nI 0) C dX7_wants_20 21 rfl (by decide) ?_
      refine q_put (k := 0) (j := 0) (f := 10) C hinX7 tyX7 tyX7_ok nmX7 f135 (fun _ h => h) (by decide) rfl rfl (tyX7_ok 10 (by decide)) (by decide) rfl dX7_wants_21 24 rfl rfl rfl (Nat.le_of_ble_eq_true rfl) [[(h0, .inr (6, [.int (fd 0), .ref aS, .ref aZ, .ref aV, .int (fd 4), .ref aN, .int (fd 6), .ref aU, .int (fd 8), .int (fd 9), .int (nI 0), .ref aD, .int (fd 12), .int (fd 13), .int (fd 14), .long hh]))], wU] rfl ?_
      have hPp4 : k_isP cI h0 aS aZ aV aN aU aD (upd fd 10 (nI 0)) hh [(h0, .inr (6, [.int (fd 0), .ref aS, .ref aZ, .ref aV, .int (fd 4), .ref aN, .int (fd 6), .ref aU, .int (fd 8), .int (fd 9), .int (nI 0), .ref aD, .int (fd 12), .int (fd 13), .int (fd 14), .long hh]))] := rfl
      refine q_aload_n C dX7_wants_24 25 0 rfl rfl ?_
      refine q_dup C dX7_wants_25 26 rfl rfl ?_
      refine q_get (k := 0) (j := 0) (f := 9) C hinX7 f132 (fun _ h => h) (by decide) rfl dX7_wants_26 29 rfl rfl rfl rfl ?_
      refine q_eqs (st' := [.int (nI at9), .ref h0]) (by rw [q9]) ?_
      refine q_aload_n C dX7_wants_29 30 0 rfl rfl ?_
      refine q_get (k := 0) (j := 0) (f := 10) C hinX7 f135 (fun _ h => h) (by decide) rfl dX7_wants_30 33 rfl rfl rfl rfl ?_
      refine q_if_eq C dX7_wants_33 36 40 rfl (by decide) (q_eq0 (by omega)) (fun h33 => ?_) (fun h33 => False.elim (by first | omega | simp_all))
      refine q_iconst (v := nI 0) C dX7_wants_40 41 rfl (by decide) ?_
      refine q_iadd (v := nI at9) C dX7_wants_41 42 rfl (q_nadd (by omega)) ?_
      refine q_put (k := 0) (j := 0) (f := 9) C hinX7 tyX7 tyX7_ok nmX7 f132 (fun _ h => h) (by decide) rfl rfl (tyX7_ok 9 (by decide)) rfl rfl dX7_wants_42 45 rfl rfl rfl (Nat.le_of_ble_eq_true rfl) [[(h0, .inr (6, [.int (fd 0), .ref aS, .ref aZ, .ref aV, .int (fd 4), .ref aN, .int (fd 6), .ref aU, .int (fd 8), .int (nI at9), .int (nI 0), .ref aD, .int (fd 12), .int (fd 13), .int (fd 14), .long hh]))], wU] rfl ?_
      have hPp5 : k_isP cI h0 aS aZ aV aN aU aD (upd (upd fd 10 (nI 0)) 9 (nI at9)) hh [(h0, .inr (6, [.int (fd 0), .ref aS, .ref aZ, .ref aV, .int (fd 4), .ref aN, .int (fd 6), .ref aU, .int (fd 8), .int (nI at9), .int (nI 0), .ref aD, .int (fd 12), .int (fd 13), .int (fd 14), .long hh]))] := rfl
      exact q_vret C B dX7_wants_45 rfl rfl (fun t0 ht0 => ⟨rfl, _, by rw [k_wt_f2 (by omega)]; exact hPp5, rfl⟩)
    · refine q_iconst (v := nI 1) C dX7_wants_16 17 rfl (by decide) ?_
      refine q_goto C dX7_wants_17 21 (by decide) ?_
      refine q_put (k := 0) (j := 0) (f := 10) C hinX7 tyX7 tyX7_ok nmX7 f135 (fun _ h => h) (by decide) rfl rfl (tyX7_ok 10 (by decide)) (by decide) rfl dX7_wants_21 24 rfl rfl rfl (Nat.le_of_ble_eq_true rfl) [[(h0, .inr (6, [.int (fd 0), .ref aS, .ref aZ, .ref aV, .int (fd 4), .ref aN, .int (fd 6), .ref aU, .int (fd 8), .int (fd 9), .int (nI 1), .ref aD, .int (fd 12), .int (fd 13), .int (fd 14), .long hh]))], wU] rfl ?_
      have hPp6 : k_isP cI h0 aS aZ aV aN aU aD (upd fd 10 (nI 1)) hh [(h0, .inr (6, [.int (fd 0), .ref aS, .ref aZ, .ref aV, .int (fd 4), .ref aN, .int (fd 6), .ref aU, .int (fd 8), .int (fd 9), .int (nI 1), .ref aD, .int (fd 12), .int (fd 13), .int (fd 14), .long hh]))] := rfl
      refine q_aload_n C dX7_wants_24 25 0 rfl rfl ?_
      refine q_dup C dX7_wants_25 26 rfl rfl ?_
      refine q_get (k := 0) (j := 0) (f := 9) C hinX7 f132 (fun _ h => h) (by decide) rfl dX7_wants_26 29 rfl rfl rfl rfl ?_
      refine q_eqs (st' := [.int (nI at9), .ref h0]) (by rw [q9]) ?_
      refine q_aload_n C dX7_wants_29 30 0 rfl rfl ?_
      refine q_get (k := 0) (j := 0) (f := 10) C hinX7 f135 (fun _ h => h) (by decide) rfl dX7_wants_30 33 rfl rfl rfl rfl ?_
      refine q_if_eq C dX7_wants_33 36 40 rfl (by decide) (q_eq0 (by omega)) (fun h33 => False.elim (by first | omega | simp_all)) (fun h33 => ?_)
      refine q_iconst (v := nI 1) C dX7_wants_36 37 rfl (by decide) ?_
      refine q_goto C dX7_wants_37 41 (by decide) ?_
      refine q_iadd (v := nI (at9 + 1)) C dX7_wants_41 42 rfl (q_nadd (by omega)) ?_
      refine q_put (k := 0) (j := 0) (f := 9) C hinX7 tyX7 tyX7_ok nmX7 f132 (fun _ h => h) (by decide) rfl rfl (tyX7_ok 9 (by decide)) rfl rfl dX7_wants_42 45 rfl rfl rfl (Nat.le_of_ble_eq_true rfl) [[(h0, .inr (6, [.int (fd 0), .ref aS, .ref aZ, .ref aV, .int (fd 4), .ref aN, .int (fd 6), .ref aU, .int (fd 8), .int (nI (at9 + 1)), .int (nI 1), .ref aD, .int (fd 12), .int (fd 13), .int (fd 14), .long hh]))], wU] rfl ?_
      have hPp7 : k_isP cI h0 aS aZ aV aN aU aD (upd (upd fd 10 (nI 1)) 9 (nI (at9 + 1))) hh [(h0, .inr (6, [.int (fd 0), .ref aS, .ref aZ, .ref aV, .int (fd 4), .ref aN, .int (fd 6), .ref aU, .int (fd 8), .int (nI (at9 + 1)), .int (nI 1), .ref aD, .int (fd 12), .int (fd 13), .int (fd 14), .long hh]))] := rfl
      exact q_vret C B dX7_wants_45 rfl rfl (fun t0 ht0 => ⟨rfl, _, by rw [k_wt_t (by simpa using h5) (by omega)]; exact hPp7, rfl⟩)

set_option maxHeartbeats 400000 in
set_option maxRecDepth 100000 in
theorem c_X7_wantsThree (l : Launch) {D : va_G} {tys : List (ClassId × FieldType)} {Z : (Nat → Prop) → State → Heap → Prop} (hZ : q_St Z) {cI : ClassId} (hI : tys[0]? = some (cI, .int)) (h0 : Nat) (aS : Nat) (aZ : Nat) (aV : Nat) (aN : Nat) (aU : Nat) (aD : Nat) (fd : Nat → Int32) (hh : Int64) (wP : va_W) (hP : k_isP cI h0 aS aZ aV aN aU aD fd hh wP) (tx : List Nat) (wU : va_W) (hU : k_isU cI aU tx wU) (x : Nat) (y : Nat) (z : Nat) (at9 : Nat) (ok9 : Bool) (q8 : fd 8 = nI tx.length) (q9 : fd 9 = nI at9) (q10 : fd 10 = q_b ok9) (ha : at9 ≤ 990) (hx : x ≤ 126) (hy : y ≤ 126) (hz : z ≤ 126) : q_Ct l D tys Z yX7_wantsThree wsX7_wantsThree ({ frames := 3, cells := 0, slots := 0, locals := 102 } : Room) 0 0 [.ref h0, .int (nI x), .int (nI y), .int (nI z)] [wP, wU] (fun v0 R0 _ => v0 = none ∧ ∃ wP', k_isP cI h0 aS aZ aV aN aU aD (upd (upd fd 10 (q_b (k_wl tx [x, y, z] (at9, ok9)).2)) 9 (nI (k_wl tx [x, y, z] (at9, ok9)).1)) hh wP' ∧ R0 = [wP', wU]) := by
  have hcI := hI
  refine q_ct (cc := cX7_wantsThree) (maxL := 4) (ret := none) (own := RX7) (by decide) rfl hZ (Nat.le_of_ble_eq_true rfl) rfl ?_
  intro p9 e9 R s9 m9 args below meth c9 A Q C B
  have hts := C.2.2.2.2.1
  refine q_eqL (L' := [(0, .ref h0), (1, .int (nI x)), (2, .int (nI y)), (3, .int (nI z))]) rfl ?_
  have hw1 := k_wt_le tx x (at9, ok9)
  have hw2 := k_wt_le tx y (k_wt tx x (at9, ok9))
  refine q_aload_n C dX7_wantsThree_0 1 0 rfl rfl ?_
  refine q_iload_n C dX7_wantsThree_1 2 1 rfl rfl ?_
  refine q_callV (k := 0) (ci := 6) (n := 1) (rest := []) (Rr := []) C rfl (k_isP_recv hP) rfl (c_X7_wants l hZ hI h0 aS aZ aV aN aU aD fd hh wP hP tx wU hU x at9 ok9 (by first | exact q8 | rfl) (by first | exact q9 | rfl) (by first | exact q10 | rfl) (by omega) (by omega)) gX7_wantsThree_X7_wants rfl rfl rfl (by decide +kernel) B.1 ⟨Nat.le_of_ble_eq_true rfl, Nat.le_of_ble_eq_true rfl⟩ rfl rfl (Nat.le_of_ble_eq_true rfl) dX7_wantsThree_2 ⟨Nat.le_of_ble_eq_true rfl, Nat.le_of_ble_eq_true rfl⟩ [0, 1] [] (by decide : ([0, 1] ++ ([] : List Nat)).Perm (List.range 2)) rfl rfl 5 rfl (fun v0 R0 t0 ht0 hp0 => ?_)
  obtain ⟨rfl, wP_2, hwP_2, rfl⟩ := hp0
  refine q_eqs (st' := []) rfl ?_
  refine q_eqR (Rs' := [wP_2, wU]) rfl ?_
  refine q_aload_n C dX7_wantsThree_5 6 0 rfl rfl ?_
  refine q_iload_n C dX7_wantsThree_6 7 2 rfl rfl ?_
  refine q_callV (k := 0) (ci := 6) (n := 1) (rest := []) (Rr := []) C rfl (k_isP_recv hwP_2) rfl (c_X7_wants l hZ hI h0 aS aZ aV aN aU aD (upd (upd fd 10 (q_b (k_wt tx x (at9, ok9)).2)) 9 (nI (k_wt tx x (at9, ok9)).1)) hh wP_2 hwP_2 tx wU hU y ((k_wt tx x (at9, ok9)).1) ((k_wt tx x (at9, ok9)).2) (by first | exact q8 | rfl) (by first | exact q9 | rfl) (by first | exact q10 | rfl) (Nat.le_trans hw1 (by show at9 + 1 ≤ 1000; omega)) (by omega)) gX7_wantsThree_X7_wants rfl rfl rfl (by decide +kernel) B.1 ⟨Nat.le_of_ble_eq_true rfl, Nat.le_of_ble_eq_true rfl⟩ rfl rfl (Nat.le_of_ble_eq_true rfl) dX7_wantsThree_7 ⟨Nat.le_of_ble_eq_true rfl, Nat.le_of_ble_eq_true rfl⟩ [0, 1] [] (by decide : ([0, 1] ++ ([] : List Nat)).Perm (List.range 2)) rfl rfl 10 rfl (fun v0 R0 t0 ht0 hp0 => ?_)
  obtain ⟨rfl, wP_7, hwP_7, rfl⟩ := hp0
  refine q_eqs (st' := []) rfl ?_
  refine q_eqR (Rs' := [wP_7, wU]) rfl ?_
  refine q_aload_n C dX7_wantsThree_10 11 0 rfl rfl ?_
  refine q_iload_n C dX7_wantsThree_11 12 3 rfl rfl ?_
  refine q_callV (k := 0) (ci := 6) (n := 1) (rest := []) (Rr := []) C rfl (k_isP_recv hwP_7) rfl (c_X7_wants l hZ hI h0 aS aZ aV aN aU aD (upd (upd (upd (upd fd 10 (q_b (k_wt tx x (at9, ok9)).2)) 9 (nI (k_wt tx x (at9, ok9)).1)) 10 (q_b (k_wt tx y (((k_wt tx x (at9, ok9)).1), ((k_wt tx x (at9, ok9)).2))).2)) 9 (nI (k_wt tx y (((k_wt tx x (at9, ok9)).1), ((k_wt tx x (at9, ok9)).2))).1)) hh wP_7 hwP_7 tx wU hU z ((k_wt tx y (((k_wt tx x (at9, ok9)).1), ((k_wt tx x (at9, ok9)).2))).1) ((k_wt tx y (((k_wt tx x (at9, ok9)).1), ((k_wt tx x (at9, ok9)).2))).2) (by first | exact q8 | rfl) (by first | exact q9 | rfl) (by first | exact q10 | rfl) (Nat.le_trans hw2 (by show _ + 1 ≤ 1000; have := hw1; simp only at this ⊢; omega)) (by omega)) gX7_wantsThree_X7_wants rfl rfl rfl (by decide +kernel) B.1 ⟨Nat.le_of_ble_eq_true rfl, Nat.le_of_ble_eq_true rfl⟩ rfl rfl (Nat.le_of_ble_eq_true rfl) dX7_wantsThree_12 ⟨Nat.le_of_ble_eq_true rfl, Nat.le_of_ble_eq_true rfl⟩ [0, 1] [] (by decide : ([0, 1] ++ ([] : List Nat)).Perm (List.range 2)) rfl rfl 15 rfl (fun v0 R0 t0 ht0 hp0 => ?_)
  obtain ⟨rfl, wP_12, hwP_12, rfl⟩ := hp0
  refine q_eqs (st' := []) rfl ?_
  refine q_eqR (Rs' := [wP_12, wU]) rfl ?_
  exact q_vret C B dX7_wantsThree_15 rfl rfl (fun t0 ht0 => ⟨rfl, _, hwP_12, rfl⟩)

set_option maxHeartbeats 400000 in
set_option maxRecDepth 100000 in
theorem c_X7_letter (l : Launch) {D : va_G} {tys : List (ClassId × FieldType)} {Z : (Nat → Prop) → State → Heap → Prop} (hZ : q_St Z) {cI : ClassId} (hI : tys[0]? = some (cI, .int)) (h0 : Nat) (aS : Nat) (aZ : Nat) (aV : Nat) (aN : Nat) (aU : Nat) (aD : Nat) (fd : Nat → Int32) (hh : Int64) (wP : va_W) (hP : k_isP cI h0 aS aZ aV aN aU aD fd hh wP) (tx : List Nat) (wU : va_W) (hU : k_isU cI aU tx wU) (at9 : Nat) (ok9 : Bool) (q8 : fd 8 = nI tx.length) (q9 : fd 9 = nI at9) (q10 : fd 10 = q_b ok9) (ha : at9 ≤ 1000) : q_Ct l D tys Z yX7_letter wsX7_letter ({ frames := 2, cells := 0, slots := 0, locals := 72 } : Room) 0 0 [.ref h0] [wP, wU] (fun v0 R0 _ => v0 = some (.int (nI (k_sg tx at9) - nI 97)) ∧ ∃ wP', k_isP cI h0 aS aZ aV aN aU aD (upd (upd fd 10 (q_b (k_lp tx (at9, ok9)).2)) 9 (nI (k_lp tx (at9, ok9)).1)) hh wP' ∧ R0 = [wP', wU]) := by
  have hcI := hI
  refine q_ct (cc := cX7_letter) (maxL := 2) (ret := (some .int)) (own := RX7) (by decide) rfl hZ (Nat.le_of_ble_eq_true rfl) rfl ?_
  intro p9 e9 R s9 m9 args below meth c9 A Q C B
  have hts := C.2.2.2.2.1
  have hinX7 : ∀ w ∈ u_ws RX7 TX7 16, w ∈ wsX7_letter := by decide +kernel
  have f135 := hts (.fieldLink RX7 135 "SortCasesModel" "isWell" "Z") (by decide +kernel)
  have f132 := hts (.fieldLink RX7 132 "SortCasesModel" "at" "I") (by decide +kernel)
  refine q_eqL (L' := [(0, .ref h0)]) rfl ?_
  refine q_aload_n C dX7_letter_0 1 0 rfl rfl ?_
  refine q_aload_n C dX7_letter_1 2 0 rfl rfl ?_
  obtain rfl := hP
  have hPo1 : k_isP cI h0 aS aZ aV aN aU aD fd hh [(h0, .inr (6, [.int (fd 0), .ref aS, .ref aZ, .ref aV, .int (fd 4), .ref aN, .int (fd 6), .ref aU, .int (fd 8), .int (fd 9), .int (fd 10), .ref aD, .int (fd 12), .int (fd 13), .int (fd 14), .long hh]))] := rfl
  refine q_get (k := 0) (j := 0) (f := 10) C hinX7 f135 (fun _ h => h) (by decide) rfl dX7_letter_2 5 rfl rfl rfl rfl ?_
  refine q_eqs (st' := [.int (q_b ok9), .ref h0]) (by rw [q10]) ?_
  refine q_if_eq (P := ok9 = false) C dX7_letter_5 8 26 rfl (by decide) q_b0 (fun h5 => ?_) (fun h5 => ?_)
  · refine q_iconst (v := nI 0) C dX7_letter_26 27 rfl (by decide) ?_
    refine q_put (k := 0) (j := 0) (f := 10) C hinX7 tyX7 tyX7_ok nmX7 f135 (fun _ h => h) (by decide) rfl rfl (tyX7_ok 10 (by decide)) (by decide) rfl dX7_letter_27 30 rfl rfl rfl (Nat.le_of_ble_eq_true rfl) [[(h0, .inr (6, [.int (fd 0), .ref aS, .ref aZ, .ref aV, .int (fd 4), .ref aN, .int (fd 6), .ref aU, .int (fd 8), .int (fd 9), .int (nI 0), .ref aD, .int (fd 12), .int (fd 13), .int (fd 14), .long hh]))], wU] rfl ?_
    have hPp2 : k_isP cI h0 aS aZ aV aN aU aD (upd fd 10 (nI 0)) hh [(h0, .inr (6, [.int (fd 0), .ref aS, .ref aZ, .ref aV, .int (fd 4), .ref aN, .int (fd 6), .ref aU, .int (fd 8), .int (fd 9), .int (nI 0), .ref aD, .int (fd 12), .int (fd 13), .int (fd 14), .long hh]))] := rfl
    refine q_aload_n C dX7_letter_30 31 0 rfl rfl ?_
    refine q_callV (k := 0) (ci := 6) (n := 0) (rest := []) (Rr := []) C rfl (k_isP_recv hPp2) rfl (c_X7_sign l hZ hI h0 aS aZ aV aN aU aD (upd fd 10 (nI 0)) hh ([(h0, .inr (6, [.int (fd 0), .ref aS, .ref aZ, .ref aV, .int (fd 4), .ref aN, .int (fd 6), .ref aU, .int (fd 8), .int (fd 9), .int (nI 0), .ref aD, .int (fd 12), .int (fd 13), .int (fd 14), .long hh]))]) hPp2 tx wU hU at9 (by first | exact q8 | rfl) (by first | exact q9 | rfl) (by omega)) gX7_letter_X7_sign rfl rfl rfl (by decide +kernel) B.1 ⟨Nat.le_of_ble_eq_true rfl, Nat.le_of_ble_eq_true rfl⟩ rfl rfl (Nat.le_of_ble_eq_true rfl) dX7_letter_31 ⟨Nat.le_of_ble_eq_true rfl, Nat.le_of_ble_eq_true rfl⟩ [0, 1] [] (by decide : ([0, 1] ++ ([] : List Nat)).Perm (List.range 2)) rfl rfl 34 rfl (fun v0 R0 t0 ht0 hp0 => ?_)
    obtain ⟨rfl, rfl⟩ := hp0
    refine q_eqs (st' := [.int (nI (k_sg tx at9))]) rfl ?_
    refine q_eqR (Rs' := [[(h0, .inr (6, [.int (fd 0), .ref aS, .ref aZ, .ref aV, .int (fd 4), .ref aN, .int (fd 6), .ref aU, .int (fd 8), .int (fd 9), .int (nI 0), .ref aD, .int (fd 12), .int (fd 13), .int (fd 14), .long hh]))], wU]) rfl ?_
    have hs31 : k_sg tx at9 ≤ 126 := k_sg_le hU.1 _
    refine q_bipush (v := nI 97) C dX7_letter_34 36 rfl (by decide) ?_
    refine q_isub (v := nI (k_sg tx at9) - nI 97) C dX7_letter_36 37 rfl rfl ?_
    refine q_istore_n C dX7_letter_37 38 rfl [(1, .int (nI (k_sg tx at9) - nI 97)), (0, .ref h0)] (by decide) rfl ?_
    refine q_aload_n C dX7_letter_38 39 1 rfl rfl ?_
    refine q_dup C dX7_letter_39 40 rfl rfl ?_
    refine q_get (k := 0) (j := 0) (f := 9) C hinX7 f132 (fun _ h => h) (by decide) rfl dX7_letter_40 43 rfl rfl rfl rfl ?_
    refine q_eqs (st' := [.int (nI at9), .ref h0]) (by rw [q9]) ?_
    refine q_aload_n C dX7_letter_43 44 1 rfl rfl ?_
    refine q_get (k := 0) (j := 0) (f := 10) C hinX7 f135 (fun _ h => h) (by decide) rfl dX7_letter_44 47 rfl rfl rfl rfl ?_
    refine q_if_eq C dX7_letter_47 50 54 rfl (by decide) (q_eq0 (by omega)) (fun h47 => ?_) (fun h47 => False.elim (by first | omega | simp_all))
    refine q_iconst (v := nI 0) C dX7_letter_54 55 rfl (by decide) ?_
    refine q_iadd (v := nI at9) C dX7_letter_55 56 rfl (q_nadd (by omega)) ?_
    refine q_put (k := 0) (j := 0) (f := 9) C hinX7 tyX7 tyX7_ok nmX7 f132 (fun _ h => h) (by decide) rfl rfl (tyX7_ok 9 (by decide)) rfl rfl dX7_letter_56 59 rfl rfl rfl (Nat.le_of_ble_eq_true rfl) [[(h0, .inr (6, [.int (fd 0), .ref aS, .ref aZ, .ref aV, .int (fd 4), .ref aN, .int (fd 6), .ref aU, .int (fd 8), .int (nI at9), .int (nI 0), .ref aD, .int (fd 12), .int (fd 13), .int (fd 14), .long hh]))], wU] rfl ?_
    have hPp3 : k_isP cI h0 aS aZ aV aN aU aD (upd (upd fd 10 (nI 0)) 9 (nI at9)) hh [(h0, .inr (6, [.int (fd 0), .ref aS, .ref aZ, .ref aV, .int (fd 4), .ref aN, .int (fd 6), .ref aU, .int (fd 8), .int (nI at9), .int (nI 0), .ref aD, .int (fd 12), .int (fd 13), .int (fd 14), .long hh]))] := rfl
    refine q_iload_n C dX7_letter_59 60 0 rfl rfl ?_
    exact q_iret C B dX7_letter_60 rfl rfl (fun t0 ht0 => ⟨rfl, _, by rw [k_lp_f1 h5]; exact hPp3, rfl⟩)
  · refine q_aload_n C dX7_letter_8 9 0 rfl rfl ?_
    refine q_callV (k := 0) (ci := 6) (n := 0) (rest := [.ref h0]) (Rr := []) C rfl (k_isP_recv hPo1) rfl (c_X7_sign l hZ hI h0 aS aZ aV aN aU aD fd hh ([(h0, .inr (6, [.int (fd 0), .ref aS, .ref aZ, .ref aV, .int (fd 4), .ref aN, .int (fd 6), .ref aU, .int (fd 8), .int (fd 9), .int (fd 10), .ref aD, .int (fd 12), .int (fd 13), .int (fd 14), .long hh]))]) hPo1 tx wU hU at9 (by first | exact q8 | rfl) (by first | exact q9 | rfl) (by omega)) gX7_letter_X7_sign rfl rfl rfl (by decide +kernel) B.1 ⟨Nat.le_of_ble_eq_true rfl, Nat.le_of_ble_eq_true rfl⟩ rfl rfl (Nat.le_of_ble_eq_true rfl) dX7_letter_9 ⟨Nat.le_of_ble_eq_true rfl, Nat.le_of_ble_eq_true rfl⟩ [0, 1] [] (by decide : ([0, 1] ++ ([] : List Nat)).Perm (List.range 2)) rfl rfl 12 rfl (fun v0 R0 t0 ht0 hp0 => ?_)
    obtain ⟨rfl, rfl⟩ := hp0
    refine q_eqs (st' := [.int (nI (k_sg tx at9)), .ref h0]) rfl ?_
    refine q_eqR (Rs' := [[(h0, .inr (6, [.int (fd 0), .ref aS, .ref aZ, .ref aV, .int (fd 4), .ref aN, .int (fd 6), .ref aU, .int (fd 8), .int (fd 9), .int (fd 10), .ref aD, .int (fd 12), .int (fd 13), .int (fd 14), .long hh]))], wU]) rfl ?_
    have hs9 : k_sg tx at9 ≤ 126 := k_sg_le hU.1 _
    refine q_bipush (v := nI 97) C dX7_letter_12 14 rfl (by decide) ?_
    refine q_bipush (v := nI 108) C dX7_letter_14 16 rfl (by decide) ?_
    refine q_callS (n := 3) (rest := [.ref h0]) (Rr := [[(h0, .inr (6, [.int (fd 0), .ref aS, .ref aZ, .ref aV, .int (fd 4), .ref aN, .int (fd 6), .ref aU, .int (fd 8), .int (fd 9), .int (fd 10), .ref aD, .int (fd 12), .int (fd 13), .int (fd 14), .long hh]))], wU]) C (c_X7_in l hZ hI (nI (k_sg tx at9)) (nI 97) (nI 108)) gX7_letter_X7_in rfl rfl rfl (by decide +kernel) B.1 ⟨Nat.le_of_ble_eq_true rfl, Nat.le_of_ble_eq_true rfl⟩ rfl rfl (Nat.le_of_ble_eq_true rfl) dX7_letter_16 ⟨Nat.le_of_ble_eq_true rfl, Nat.le_of_ble_eq_true rfl⟩ [] [0, 1] (by decide : ([] ++ ([0, 1] : List Nat)).Perm (List.range 2)) rfl rfl 19 rfl (fun v0 R0 t0 ht0 hp0 => ?_)
    obtain ⟨rfl, rfl⟩ := hp0
    refine q_eqs (st' := [.int (q_b (decide ((nI 97) ≤ (nI (k_sg tx at9)) ∧ (nI (k_sg tx at9)) ≤ (nI 108)))), .ref h0]) rfl ?_
    refine q_eqR (Rs' := [[(h0, .inr (6, [.int (fd 0), .ref aS, .ref aZ, .ref aV, .int (fd 4), .ref aN, .int (fd 6), .ref aU, .int (fd 8), .int (fd 9), .int (fd 10), .ref aD, .int (fd 12), .int (fd 13), .int (fd 14), .long hh]))], wU]) rfl ?_
    refine q_if_eq (P := ¬ (97 ≤ k_sg tx at9 ∧ k_sg tx at9 ≤ 108)) C dX7_letter_19 22 26 rfl (by decide) (k_in_iff (by omega) (by omega) (by omega)) (fun h19 => ?_) (fun h19 => ?_)
    · refine q_iconst (v := nI 0) C dX7_letter_26 27 rfl (by decide) ?_
      refine q_put (k := 0) (j := 0) (f := 10) C hinX7 tyX7 tyX7_ok nmX7 f135 (fun _ h => h) (by decide) rfl rfl (tyX7_ok 10 (by decide)) (by decide) rfl dX7_letter_27 30 rfl rfl rfl (Nat.le_of_ble_eq_true rfl) [[(h0, .inr (6, [.int (fd 0), .ref aS, .ref aZ, .ref aV, .int (fd 4), .ref aN, .int (fd 6), .ref aU, .int (fd 8), .int (fd 9), .int (nI 0), .ref aD, .int (fd 12), .int (fd 13), .int (fd 14), .long hh]))], wU] rfl ?_
      have hPp4 : k_isP cI h0 aS aZ aV aN aU aD (upd fd 10 (nI 0)) hh [(h0, .inr (6, [.int (fd 0), .ref aS, .ref aZ, .ref aV, .int (fd 4), .ref aN, .int (fd 6), .ref aU, .int (fd 8), .int (fd 9), .int (nI 0), .ref aD, .int (fd 12), .int (fd 13), .int (fd 14), .long hh]))] := rfl
      refine q_aload_n C dX7_letter_30 31 0 rfl rfl ?_
      refine q_callV (k := 0) (ci := 6) (n := 0) (rest := []) (Rr := []) C rfl (k_isP_recv hPp4) rfl (c_X7_sign l hZ hI h0 aS aZ aV aN aU aD (upd fd 10 (nI 0)) hh ([(h0, .inr (6, [.int (fd 0), .ref aS, .ref aZ, .ref aV, .int (fd 4), .ref aN, .int (fd 6), .ref aU, .int (fd 8), .int (fd 9), .int (nI 0), .ref aD, .int (fd 12), .int (fd 13), .int (fd 14), .long hh]))]) hPp4 tx wU hU at9 (by first | exact q8 | rfl) (by first | exact q9 | rfl) (by omega)) gX7_letter_X7_sign rfl rfl rfl (by decide +kernel) B.1 ⟨Nat.le_of_ble_eq_true rfl, Nat.le_of_ble_eq_true rfl⟩ rfl rfl (Nat.le_of_ble_eq_true rfl) dX7_letter_31 ⟨Nat.le_of_ble_eq_true rfl, Nat.le_of_ble_eq_true rfl⟩ [0, 1] [] (by decide : ([0, 1] ++ ([] : List Nat)).Perm (List.range 2)) rfl rfl 34 rfl (fun v0 R0 t0 ht0 hp0 => ?_)
      obtain ⟨rfl, rfl⟩ := hp0
      refine q_eqs (st' := [.int (nI (k_sg tx at9))]) rfl ?_
      refine q_eqR (Rs' := [[(h0, .inr (6, [.int (fd 0), .ref aS, .ref aZ, .ref aV, .int (fd 4), .ref aN, .int (fd 6), .ref aU, .int (fd 8), .int (fd 9), .int (nI 0), .ref aD, .int (fd 12), .int (fd 13), .int (fd 14), .long hh]))], wU]) rfl ?_
      have hs31 : k_sg tx at9 ≤ 126 := k_sg_le hU.1 _
      refine q_bipush (v := nI 97) C dX7_letter_34 36 rfl (by decide) ?_
      refine q_isub (v := nI (k_sg tx at9) - nI 97) C dX7_letter_36 37 rfl rfl ?_
      refine q_istore_n C dX7_letter_37 38 rfl [(1, .int (nI (k_sg tx at9) - nI 97)), (0, .ref h0)] (by decide) rfl ?_
      refine q_aload_n C dX7_letter_38 39 1 rfl rfl ?_
      refine q_dup C dX7_letter_39 40 rfl rfl ?_
      refine q_get (k := 0) (j := 0) (f := 9) C hinX7 f132 (fun _ h => h) (by decide) rfl dX7_letter_40 43 rfl rfl rfl rfl ?_
      refine q_eqs (st' := [.int (nI at9), .ref h0]) (by rw [q9]) ?_
      refine q_aload_n C dX7_letter_43 44 1 rfl rfl ?_
      refine q_get (k := 0) (j := 0) (f := 10) C hinX7 f135 (fun _ h => h) (by decide) rfl dX7_letter_44 47 rfl rfl rfl rfl ?_
      refine q_if_eq C dX7_letter_47 50 54 rfl (by decide) (q_eq0 (by omega)) (fun h47 => ?_) (fun h47 => False.elim (by first | omega | simp_all))
      refine q_iconst (v := nI 0) C dX7_letter_54 55 rfl (by decide) ?_
      refine q_iadd (v := nI at9) C dX7_letter_55 56 rfl (q_nadd (by omega)) ?_
      refine q_put (k := 0) (j := 0) (f := 9) C hinX7 tyX7 tyX7_ok nmX7 f132 (fun _ h => h) (by decide) rfl rfl (tyX7_ok 9 (by decide)) rfl rfl dX7_letter_56 59 rfl rfl rfl (Nat.le_of_ble_eq_true rfl) [[(h0, .inr (6, [.int (fd 0), .ref aS, .ref aZ, .ref aV, .int (fd 4), .ref aN, .int (fd 6), .ref aU, .int (fd 8), .int (nI at9), .int (nI 0), .ref aD, .int (fd 12), .int (fd 13), .int (fd 14), .long hh]))], wU] rfl ?_
      have hPp5 : k_isP cI h0 aS aZ aV aN aU aD (upd (upd fd 10 (nI 0)) 9 (nI at9)) hh [(h0, .inr (6, [.int (fd 0), .ref aS, .ref aZ, .ref aV, .int (fd 4), .ref aN, .int (fd 6), .ref aU, .int (fd 8), .int (nI at9), .int (nI 0), .ref aD, .int (fd 12), .int (fd 13), .int (fd 14), .long hh]))] := rfl
      refine q_iload_n C dX7_letter_59 60 0 rfl rfl ?_
      exact q_iret C B dX7_letter_60 rfl rfl (fun t0 ht0 => ⟨rfl, _, by rw [k_lp_f2 h19]; exact hPp5, rfl⟩)
    · refine q_iconst (v := nI 1) C dX7_letter_22 23 rfl (by decide) ?_
      refine q_goto C dX7_letter_23 27 (by decide) ?_
      refine q_put (k := 0) (j := 0) (f := 10) C hinX7 tyX7 tyX7_ok nmX7 f135 (fun _ h => h) (by decide) rfl rfl (tyX7_ok 10 (by decide)) (by decide) rfl dX7_letter_27 30 rfl rfl rfl (Nat.le_of_ble_eq_true rfl) [[(h0, .inr (6, [.int (fd 0), .ref aS, .ref aZ, .ref aV, .int (fd 4), .ref aN, .int (fd 6), .ref aU, .int (fd 8), .int (fd 9), .int (nI 1), .ref aD, .int (fd 12), .int (fd 13), .int (fd 14), .long hh]))], wU] rfl ?_
      have hPp6 : k_isP cI h0 aS aZ aV aN aU aD (upd fd 10 (nI 1)) hh [(h0, .inr (6, [.int (fd 0), .ref aS, .ref aZ, .ref aV, .int (fd 4), .ref aN, .int (fd 6), .ref aU, .int (fd 8), .int (fd 9), .int (nI 1), .ref aD, .int (fd 12), .int (fd 13), .int (fd 14), .long hh]))] := rfl
      refine q_aload_n C dX7_letter_30 31 0 rfl rfl ?_
      refine q_callV (k := 0) (ci := 6) (n := 0) (rest := []) (Rr := []) C rfl (k_isP_recv hPp6) rfl (c_X7_sign l hZ hI h0 aS aZ aV aN aU aD (upd fd 10 (nI 1)) hh ([(h0, .inr (6, [.int (fd 0), .ref aS, .ref aZ, .ref aV, .int (fd 4), .ref aN, .int (fd 6), .ref aU, .int (fd 8), .int (fd 9), .int (nI 1), .ref aD, .int (fd 12), .int (fd 13), .int (fd 14), .long hh]))]) hPp6 tx wU hU at9 (by first | exact q8 | rfl) (by first | exact q9 | rfl) (by omega)) gX7_letter_X7_sign rfl rfl rfl (by decide +kernel) B.1 ⟨Nat.le_of_ble_eq_true rfl, Nat.le_of_ble_eq_true rfl⟩ rfl rfl (Nat.le_of_ble_eq_true rfl) dX7_letter_31 ⟨Nat.le_of_ble_eq_true rfl, Nat.le_of_ble_eq_true rfl⟩ [0, 1] [] (by decide : ([0, 1] ++ ([] : List Nat)).Perm (List.range 2)) rfl rfl 34 rfl (fun v0 R0 t0 ht0 hp0 => ?_)
      obtain ⟨rfl, rfl⟩ := hp0
      refine q_eqs (st' := [.int (nI (k_sg tx at9))]) rfl ?_
      refine q_eqR (Rs' := [[(h0, .inr (6, [.int (fd 0), .ref aS, .ref aZ, .ref aV, .int (fd 4), .ref aN, .int (fd 6), .ref aU, .int (fd 8), .int (fd 9), .int (nI 1), .ref aD, .int (fd 12), .int (fd 13), .int (fd 14), .long hh]))], wU]) rfl ?_
      have hs31 : k_sg tx at9 ≤ 126 := k_sg_le hU.1 _
      refine q_bipush (v := nI 97) C dX7_letter_34 36 rfl (by decide) ?_
      refine q_isub (v := nI (k_sg tx at9) - nI 97) C dX7_letter_36 37 rfl rfl ?_
      refine q_istore_n C dX7_letter_37 38 rfl [(1, .int (nI (k_sg tx at9) - nI 97)), (0, .ref h0)] (by decide) rfl ?_
      refine q_aload_n C dX7_letter_38 39 1 rfl rfl ?_
      refine q_dup C dX7_letter_39 40 rfl rfl ?_
      refine q_get (k := 0) (j := 0) (f := 9) C hinX7 f132 (fun _ h => h) (by decide) rfl dX7_letter_40 43 rfl rfl rfl rfl ?_
      refine q_eqs (st' := [.int (nI at9), .ref h0]) (by rw [q9]) ?_
      refine q_aload_n C dX7_letter_43 44 1 rfl rfl ?_
      refine q_get (k := 0) (j := 0) (f := 10) C hinX7 f135 (fun _ h => h) (by decide) rfl dX7_letter_44 47 rfl rfl rfl rfl ?_
      refine q_if_eq C dX7_letter_47 50 54 rfl (by decide) (q_eq0 (by omega)) (fun h47 => False.elim (by first | omega | simp_all)) (fun h47 => ?_)
      refine q_iconst (v := nI 1) C dX7_letter_50 51 rfl (by decide) ?_
      refine q_goto C dX7_letter_51 55 (by decide) ?_
      refine q_iadd (v := nI (at9 + 1)) C dX7_letter_55 56 rfl (q_nadd (by omega)) ?_
      refine q_put (k := 0) (j := 0) (f := 9) C hinX7 tyX7 tyX7_ok nmX7 f132 (fun _ h => h) (by decide) rfl rfl (tyX7_ok 9 (by decide)) rfl rfl dX7_letter_56 59 rfl rfl rfl (Nat.le_of_ble_eq_true rfl) [[(h0, .inr (6, [.int (fd 0), .ref aS, .ref aZ, .ref aV, .int (fd 4), .ref aN, .int (fd 6), .ref aU, .int (fd 8), .int (nI (at9 + 1)), .int (nI 1), .ref aD, .int (fd 12), .int (fd 13), .int (fd 14), .long hh]))], wU] rfl ?_
      have hPp7 : k_isP cI h0 aS aZ aV aN aU aD (upd (upd fd 10 (nI 1)) 9 (nI (at9 + 1))) hh [(h0, .inr (6, [.int (fd 0), .ref aS, .ref aZ, .ref aV, .int (fd 4), .ref aN, .int (fd 6), .ref aU, .int (fd 8), .int (nI (at9 + 1)), .int (nI 1), .ref aD, .int (fd 12), .int (fd 13), .int (fd 14), .long hh]))] := rfl
      refine q_iload_n C dX7_letter_59 60 0 rfl rfl ?_
      exact q_iret C B dX7_letter_60 rfl rfl (fun t0 ht0 => ⟨rfl, _, by rw [k_lp_t (by simpa using h5) (by omega)]; exact hPp7, rfl⟩)

set_option maxHeartbeats 400000 in
set_option maxRecDepth 100000 in
theorem c_X7_number (l : Launch) {D : va_G} {tys : List (ClassId × FieldType)} {Z : (Nat → Prop) → State → Heap → Prop} (hZ : q_St Z) {cI : ClassId} (hI : tys[0]? = some (cI, .int)) (h0 : Nat) (aS : Nat) (aZ : Nat) (aV : Nat) (aN : Nat) (aU : Nat) (aD : Nat) (fd : Nat → Int32) (hh : Int64) (wP : va_W) (hP : k_isP cI h0 aS aZ aV aN aU aD fd hh wP) (tx : List Nat) (wU : va_W) (hU : k_isU cI aU tx wU) (lo : Nat) (hi : Nat) (at9 : Nat) (ok9 : Bool) (q8 : fd 8 = nI tx.length) (q9 : fd 9 = nI at9) (q10 : fd 10 = q_b ok9) (ha : at9 ≤ 990) (hlo : lo ≤ 1) (hhi : hi ≤ 99) : q_Ct l D tys Z yX7_number wsX7_number ({ frames := 2, cells := 0, slots := 0, locals := 72 } : Room) 0 0 [.ref h0, .int (nI lo), .int (nI hi)] [wP, wU] (fun v0 R0 _ => v0 = some (.int (k_nr tx lo hi (at9, ok9))) ∧ ∃ wP', k_isP cI h0 aS aZ aV aN aU aD (upd (upd fd 10 (q_b (k_nq tx lo hi (at9, ok9)).2)) 9 (nI (k_nq tx lo hi (at9, ok9)).1)) hh wP' ∧ R0 = [wP', wU]) := by
  have hcI := hI
  refine q_ct (cc := cX7_number) (maxL := 4) (ret := (some .int)) (own := RX7) (by decide) rfl hZ (Nat.le_of_ble_eq_true rfl) rfl ?_
  intro p9 e9 R s9 m9 args below meth c9 A Q C B
  have hts := C.2.2.2.2.1
  have hinX7 : ∀ w ∈ u_ws RX7 TX7 16, w ∈ wsX7_number := by decide +kernel
  have f135 := hts (.fieldLink RX7 135 "SortCasesModel" "isWell" "Z") (by decide +kernel)
  have f132 := hts (.fieldLink RX7 132 "SortCasesModel" "at" "I") (by decide +kernel)
  refine q_eqL (L' := [(0, .ref h0), (1, .int (nI lo)), (2, .int (nI hi))]) rfl ?_
  refine q_aload_n C dX7_number_0 1 0 rfl rfl ?_
  refine q_aload_n C dX7_number_1 2 0 rfl rfl ?_
  obtain rfl := hP
  have hPo1 : k_isP cI h0 aS aZ aV aN aU aD fd hh [(h0, .inr (6, [.int (fd 0), .ref aS, .ref aZ, .ref aV, .int (fd 4), .ref aN, .int (fd 6), .ref aU, .int (fd 8), .int (fd 9), .int (fd 10), .ref aD, .int (fd 12), .int (fd 13), .int (fd 14), .long hh]))] := rfl
  refine q_get (k := 0) (j := 0) (f := 10) C hinX7 f135 (fun _ h => h) (by decide) rfl dX7_number_2 5 rfl rfl rfl rfl ?_
  refine q_eqs (st' := [.int (q_b ok9), .ref h0]) (by rw [q10]) ?_
  refine q_if_eq (P := ok9 = false) C dX7_number_5 8 28 rfl (by decide) q_b0 (fun h5 => ?_) (fun h5 => ?_)
  · refine q_iconst (v := nI 0) C dX7_number_28 29 rfl (by decide) ?_
    refine q_put (k := 0) (j := 0) (f := 10) C hinX7 tyX7 tyX7_ok nmX7 f135 (fun _ h => h) (by decide) rfl rfl (tyX7_ok 10 (by decide)) (by decide) rfl dX7_number_29 32 rfl rfl rfl (Nat.le_of_ble_eq_true rfl) [[(h0, .inr (6, [.int (fd 0), .ref aS, .ref aZ, .ref aV, .int (fd 4), .ref aN, .int (fd 6), .ref aU, .int (fd 8), .int (fd 9), .int (nI 0), .ref aD, .int (fd 12), .int (fd 13), .int (fd 14), .long hh]))], wU] rfl ?_
    have hPp2 : k_isP cI h0 aS aZ aV aN aU aD (upd fd 10 (nI 0)) hh [(h0, .inr (6, [.int (fd 0), .ref aS, .ref aZ, .ref aV, .int (fd 4), .ref aN, .int (fd 6), .ref aU, .int (fd 8), .int (fd 9), .int (nI 0), .ref aD, .int (fd 12), .int (fd 13), .int (fd 14), .long hh]))] := rfl
    refine q_aload_n C dX7_number_32 33 0 rfl rfl ?_
    refine q_callV (k := 0) (ci := 6) (n := 0) (rest := []) (Rr := []) C rfl (k_isP_recv hPp2) rfl (c_X7_sign l hZ hI h0 aS aZ aV aN aU aD (upd fd 10 (nI 0)) hh ([(h0, .inr (6, [.int (fd 0), .ref aS, .ref aZ, .ref aV, .int (fd 4), .ref aN, .int (fd 6), .ref aU, .int (fd 8), .int (fd 9), .int (nI 0), .ref aD, .int (fd 12), .int (fd 13), .int (fd 14), .long hh]))]) hPp2 tx wU hU at9 (by first | exact q8 | rfl) (by first | exact q9 | rfl) (by omega)) gX7_number_X7_sign rfl rfl rfl (by decide +kernel) B.1 ⟨Nat.le_of_ble_eq_true rfl, Nat.le_of_ble_eq_true rfl⟩ rfl rfl (Nat.le_of_ble_eq_true rfl) dX7_number_33 ⟨Nat.le_of_ble_eq_true rfl, Nat.le_of_ble_eq_true rfl⟩ [0, 1] [] (by decide : ([0, 1] ++ ([] : List Nat)).Perm (List.range 2)) rfl rfl 36 rfl (fun v0 R0 t0 ht0 hp0 => ?_)
    obtain ⟨rfl, rfl⟩ := hp0
    refine q_eqs (st' := [.int (nI (k_sg tx at9))]) rfl ?_
    refine q_eqR (Rs' := [[(h0, .inr (6, [.int (fd 0), .ref aS, .ref aZ, .ref aV, .int (fd 4), .ref aN, .int (fd 6), .ref aU, .int (fd 8), .int (fd 9), .int (nI 0), .ref aD, .int (fd 12), .int (fd 13), .int (fd 14), .long hh]))], wU]) rfl ?_
    have hs33 : k_sg tx at9 ≤ 126 := k_sg_le hU.1 _
    refine q_bipush (v := nI 48) C dX7_number_36 38 rfl (by decide) ?_
    refine q_isub (v := nI (k_sg tx at9) - nI 48) C dX7_number_38 39 rfl rfl ?_
    refine q_istore_n C dX7_number_39 40 rfl [(3, .int (nI (k_sg tx at9) - nI 48)), (0, .ref h0), (1, .int (nI lo)), (2, .int (nI hi))] (by decide) rfl ?_
    refine q_aload_n C dX7_number_40 41 1 rfl rfl ?_
    refine q_dup C dX7_number_41 42 rfl rfl ?_
    refine q_get (k := 0) (j := 0) (f := 9) C hinX7 f132 (fun _ h => h) (by decide) rfl dX7_number_42 45 rfl rfl rfl rfl ?_
    refine q_eqs (st' := [.int (nI at9), .ref h0]) (by rw [q9]) ?_
    refine q_aload_n C dX7_number_45 46 1 rfl rfl ?_
    refine q_get (k := 0) (j := 0) (f := 10) C hinX7 f135 (fun _ h => h) (by decide) rfl dX7_number_46 49 rfl rfl rfl rfl ?_
    refine q_if_eq C dX7_number_49 52 56 rfl (by decide) (q_eq0 (by omega)) (fun h49 => ?_) (fun h49 => False.elim (by first | omega | simp_all))
    refine q_iconst (v := nI 0) C dX7_number_56 57 rfl (by decide) ?_
    refine q_iadd (v := nI at9) C dX7_number_57 58 rfl (q_nadd (by omega)) ?_
    refine q_put (k := 0) (j := 0) (f := 9) C hinX7 tyX7 tyX7_ok nmX7 f132 (fun _ h => h) (by decide) rfl rfl (tyX7_ok 9 (by decide)) rfl rfl dX7_number_58 61 rfl rfl rfl (Nat.le_of_ble_eq_true rfl) [[(h0, .inr (6, [.int (fd 0), .ref aS, .ref aZ, .ref aV, .int (fd 4), .ref aN, .int (fd 6), .ref aU, .int (fd 8), .int (nI at9), .int (nI 0), .ref aD, .int (fd 12), .int (fd 13), .int (fd 14), .long hh]))], wU] rfl ?_
    have hPp3 : k_isP cI h0 aS aZ aV aN aU aD (upd (upd fd 10 (nI 0)) 9 (nI at9)) hh [(h0, .inr (6, [.int (fd 0), .ref aS, .ref aZ, .ref aV, .int (fd 4), .ref aN, .int (fd 6), .ref aU, .int (fd 8), .int (nI at9), .int (nI 0), .ref aD, .int (fd 12), .int (fd 13), .int (fd 14), .long hh]))] := rfl
    refine q_aload_n C dX7_number_61 62 1 rfl rfl ?_
    refine q_get (k := 0) (j := 0) (f := 10) C hinX7 f135 (fun _ h => h) (by decide) rfl dX7_number_62 65 rfl rfl rfl rfl ?_
    refine q_if_eq C dX7_number_65 68 125 rfl (by decide) (q_eq0 (by omega)) (fun h65 => ?_) (fun h65 => False.elim (by first | omega | simp_all))
    refine q_iload_n C dX7_number_125 126 0 rfl rfl ?_
    exact q_iret C B dX7_number_126 rfl rfl (fun t0 ht0 => ⟨by rw [k_nr_f1 h5], _, by rw [k_nq_f1 h5]; exact hPp3, rfl⟩)
  · refine q_aload_n C dX7_number_8 9 0 rfl rfl ?_
    refine q_callV (k := 0) (ci := 6) (n := 0) (rest := [.ref h0]) (Rr := []) C rfl (k_isP_recv hPo1) rfl (c_X7_sign l hZ hI h0 aS aZ aV aN aU aD fd hh ([(h0, .inr (6, [.int (fd 0), .ref aS, .ref aZ, .ref aV, .int (fd 4), .ref aN, .int (fd 6), .ref aU, .int (fd 8), .int (fd 9), .int (fd 10), .ref aD, .int (fd 12), .int (fd 13), .int (fd 14), .long hh]))]) hPo1 tx wU hU at9 (by first | exact q8 | rfl) (by first | exact q9 | rfl) (by omega)) gX7_number_X7_sign rfl rfl rfl (by decide +kernel) B.1 ⟨Nat.le_of_ble_eq_true rfl, Nat.le_of_ble_eq_true rfl⟩ rfl rfl (Nat.le_of_ble_eq_true rfl) dX7_number_9 ⟨Nat.le_of_ble_eq_true rfl, Nat.le_of_ble_eq_true rfl⟩ [0, 1] [] (by decide : ([0, 1] ++ ([] : List Nat)).Perm (List.range 2)) rfl rfl 12 rfl (fun v0 R0 t0 ht0 hp0 => ?_)
    obtain ⟨rfl, rfl⟩ := hp0
    refine q_eqs (st' := [.int (nI (k_sg tx at9)), .ref h0]) rfl ?_
    refine q_eqR (Rs' := [[(h0, .inr (6, [.int (fd 0), .ref aS, .ref aZ, .ref aV, .int (fd 4), .ref aN, .int (fd 6), .ref aU, .int (fd 8), .int (fd 9), .int (fd 10), .ref aD, .int (fd 12), .int (fd 13), .int (fd 14), .long hh]))], wU]) rfl ?_
    have hs9 : k_sg tx at9 ≤ 126 := k_sg_le hU.1 _
    refine q_bipush (v := nI 48) C dX7_number_12 14 rfl (by decide) ?_
    refine q_iload_n C dX7_number_14 15 1 rfl rfl ?_
    refine q_iadd (v := nI (lo + 48)) C dX7_number_15 16 rfl (q_nadd (by omega)) ?_
    refine q_bipush (v := nI 57) C dX7_number_16 18 rfl (by decide) ?_
    refine q_callS (n := 3) (rest := [.ref h0]) (Rr := [[(h0, .inr (6, [.int (fd 0), .ref aS, .ref aZ, .ref aV, .int (fd 4), .ref aN, .int (fd 6), .ref aU, .int (fd 8), .int (fd 9), .int (fd 10), .ref aD, .int (fd 12), .int (fd 13), .int (fd 14), .long hh]))], wU]) C (c_X7_in l hZ hI (nI (k_sg tx at9)) (nI (lo + 48)) (nI 57)) gX7_number_X7_in rfl rfl rfl (by decide +kernel) B.1 ⟨Nat.le_of_ble_eq_true rfl, Nat.le_of_ble_eq_true rfl⟩ rfl rfl (Nat.le_of_ble_eq_true rfl) dX7_number_18 ⟨Nat.le_of_ble_eq_true rfl, Nat.le_of_ble_eq_true rfl⟩ [] [0, 1] (by decide : ([] ++ ([0, 1] : List Nat)).Perm (List.range 2)) rfl rfl 21 rfl (fun v0 R0 t0 ht0 hp0 => ?_)
    obtain ⟨rfl, rfl⟩ := hp0
    refine q_eqs (st' := [.int (q_b (decide ((nI (lo + 48)) ≤ (nI (k_sg tx at9)) ∧ (nI (k_sg tx at9)) ≤ (nI 57)))), .ref h0]) rfl ?_
    refine q_eqR (Rs' := [[(h0, .inr (6, [.int (fd 0), .ref aS, .ref aZ, .ref aV, .int (fd 4), .ref aN, .int (fd 6), .ref aU, .int (fd 8), .int (fd 9), .int (fd 10), .ref aD, .int (fd 12), .int (fd 13), .int (fd 14), .long hh]))], wU]) rfl ?_
    refine q_if_eq (P := ¬ (lo + 48 ≤ k_sg tx at9 ∧ k_sg tx at9 ≤ 57)) C dX7_number_21 24 28 rfl (by decide) (k_in_iff (by omega) (by omega) (by omega)) (fun h21 => ?_) (fun h21 => ?_)
    · refine q_iconst (v := nI 0) C dX7_number_28 29 rfl (by decide) ?_
      refine q_put (k := 0) (j := 0) (f := 10) C hinX7 tyX7 tyX7_ok nmX7 f135 (fun _ h => h) (by decide) rfl rfl (tyX7_ok 10 (by decide)) (by decide) rfl dX7_number_29 32 rfl rfl rfl (Nat.le_of_ble_eq_true rfl) [[(h0, .inr (6, [.int (fd 0), .ref aS, .ref aZ, .ref aV, .int (fd 4), .ref aN, .int (fd 6), .ref aU, .int (fd 8), .int (fd 9), .int (nI 0), .ref aD, .int (fd 12), .int (fd 13), .int (fd 14), .long hh]))], wU] rfl ?_
      have hPp4 : k_isP cI h0 aS aZ aV aN aU aD (upd fd 10 (nI 0)) hh [(h0, .inr (6, [.int (fd 0), .ref aS, .ref aZ, .ref aV, .int (fd 4), .ref aN, .int (fd 6), .ref aU, .int (fd 8), .int (fd 9), .int (nI 0), .ref aD, .int (fd 12), .int (fd 13), .int (fd 14), .long hh]))] := rfl
      refine q_aload_n C dX7_number_32 33 0 rfl rfl ?_
      refine q_callV (k := 0) (ci := 6) (n := 0) (rest := []) (Rr := []) C rfl (k_isP_recv hPp4) rfl (c_X7_sign l hZ hI h0 aS aZ aV aN aU aD (upd fd 10 (nI 0)) hh ([(h0, .inr (6, [.int (fd 0), .ref aS, .ref aZ, .ref aV, .int (fd 4), .ref aN, .int (fd 6), .ref aU, .int (fd 8), .int (fd 9), .int (nI 0), .ref aD, .int (fd 12), .int (fd 13), .int (fd 14), .long hh]))]) hPp4 tx wU hU at9 (by first | exact q8 | rfl) (by first | exact q9 | rfl) (by omega)) gX7_number_X7_sign rfl rfl rfl (by decide +kernel) B.1 ⟨Nat.le_of_ble_eq_true rfl, Nat.le_of_ble_eq_true rfl⟩ rfl rfl (Nat.le_of_ble_eq_true rfl) dX7_number_33 ⟨Nat.le_of_ble_eq_true rfl, Nat.le_of_ble_eq_true rfl⟩ [0, 1] [] (by decide : ([0, 1] ++ ([] : List Nat)).Perm (List.range 2)) rfl rfl 36 rfl (fun v0 R0 t0 ht0 hp0 => ?_)
      obtain ⟨rfl, rfl⟩ := hp0
      refine q_eqs (st' := [.int (nI (k_sg tx at9))]) rfl ?_
      refine q_eqR (Rs' := [[(h0, .inr (6, [.int (fd 0), .ref aS, .ref aZ, .ref aV, .int (fd 4), .ref aN, .int (fd 6), .ref aU, .int (fd 8), .int (fd 9), .int (nI 0), .ref aD, .int (fd 12), .int (fd 13), .int (fd 14), .long hh]))], wU]) rfl ?_
      have hs33 : k_sg tx at9 ≤ 126 := k_sg_le hU.1 _
      refine q_bipush (v := nI 48) C dX7_number_36 38 rfl (by decide) ?_
      refine q_isub (v := nI (k_sg tx at9) - nI 48) C dX7_number_38 39 rfl rfl ?_
      refine q_istore_n C dX7_number_39 40 rfl [(3, .int (nI (k_sg tx at9) - nI 48)), (0, .ref h0), (1, .int (nI lo)), (2, .int (nI hi))] (by decide) rfl ?_
      refine q_aload_n C dX7_number_40 41 1 rfl rfl ?_
      refine q_dup C dX7_number_41 42 rfl rfl ?_
      refine q_get (k := 0) (j := 0) (f := 9) C hinX7 f132 (fun _ h => h) (by decide) rfl dX7_number_42 45 rfl rfl rfl rfl ?_
      refine q_eqs (st' := [.int (nI at9), .ref h0]) (by rw [q9]) ?_
      refine q_aload_n C dX7_number_45 46 1 rfl rfl ?_
      refine q_get (k := 0) (j := 0) (f := 10) C hinX7 f135 (fun _ h => h) (by decide) rfl dX7_number_46 49 rfl rfl rfl rfl ?_
      refine q_if_eq C dX7_number_49 52 56 rfl (by decide) (q_eq0 (by omega)) (fun h49 => ?_) (fun h49 => False.elim (by first | omega | simp_all))
      refine q_iconst (v := nI 0) C dX7_number_56 57 rfl (by decide) ?_
      refine q_iadd (v := nI at9) C dX7_number_57 58 rfl (q_nadd (by omega)) ?_
      refine q_put (k := 0) (j := 0) (f := 9) C hinX7 tyX7 tyX7_ok nmX7 f132 (fun _ h => h) (by decide) rfl rfl (tyX7_ok 9 (by decide)) rfl rfl dX7_number_58 61 rfl rfl rfl (Nat.le_of_ble_eq_true rfl) [[(h0, .inr (6, [.int (fd 0), .ref aS, .ref aZ, .ref aV, .int (fd 4), .ref aN, .int (fd 6), .ref aU, .int (fd 8), .int (nI at9), .int (nI 0), .ref aD, .int (fd 12), .int (fd 13), .int (fd 14), .long hh]))], wU] rfl ?_
      have hPp5 : k_isP cI h0 aS aZ aV aN aU aD (upd (upd fd 10 (nI 0)) 9 (nI at9)) hh [(h0, .inr (6, [.int (fd 0), .ref aS, .ref aZ, .ref aV, .int (fd 4), .ref aN, .int (fd 6), .ref aU, .int (fd 8), .int (nI at9), .int (nI 0), .ref aD, .int (fd 12), .int (fd 13), .int (fd 14), .long hh]))] := rfl
      refine q_aload_n C dX7_number_61 62 1 rfl rfl ?_
      refine q_get (k := 0) (j := 0) (f := 10) C hinX7 f135 (fun _ h => h) (by decide) rfl dX7_number_62 65 rfl rfl rfl rfl ?_
      refine q_if_eq C dX7_number_65 68 125 rfl (by decide) (q_eq0 (by omega)) (fun h65 => ?_) (fun h65 => False.elim (by first | omega | simp_all))
      refine q_iload_n C dX7_number_125 126 0 rfl rfl ?_
      exact q_iret C B dX7_number_126 rfl rfl (fun t0 ht0 => ⟨by rw [k_nr_f2 (by omega)], _, by rw [k_nq_f2 (by omega)]; exact hPp5, rfl⟩)
    · refine q_iconst (v := nI 1) C dX7_number_24 25 rfl (by decide) ?_
      refine q_goto C dX7_number_25 29 (by decide) ?_
      refine q_put (k := 0) (j := 0) (f := 10) C hinX7 tyX7 tyX7_ok nmX7 f135 (fun _ h => h) (by decide) rfl rfl (tyX7_ok 10 (by decide)) (by decide) rfl dX7_number_29 32 rfl rfl rfl (Nat.le_of_ble_eq_true rfl) [[(h0, .inr (6, [.int (fd 0), .ref aS, .ref aZ, .ref aV, .int (fd 4), .ref aN, .int (fd 6), .ref aU, .int (fd 8), .int (fd 9), .int (nI 1), .ref aD, .int (fd 12), .int (fd 13), .int (fd 14), .long hh]))], wU] rfl ?_
      have hPp6 : k_isP cI h0 aS aZ aV aN aU aD (upd fd 10 (nI 1)) hh [(h0, .inr (6, [.int (fd 0), .ref aS, .ref aZ, .ref aV, .int (fd 4), .ref aN, .int (fd 6), .ref aU, .int (fd 8), .int (fd 9), .int (nI 1), .ref aD, .int (fd 12), .int (fd 13), .int (fd 14), .long hh]))] := rfl
      refine q_aload_n C dX7_number_32 33 0 rfl rfl ?_
      refine q_callV (k := 0) (ci := 6) (n := 0) (rest := []) (Rr := []) C rfl (k_isP_recv hPp6) rfl (c_X7_sign l hZ hI h0 aS aZ aV aN aU aD (upd fd 10 (nI 1)) hh ([(h0, .inr (6, [.int (fd 0), .ref aS, .ref aZ, .ref aV, .int (fd 4), .ref aN, .int (fd 6), .ref aU, .int (fd 8), .int (fd 9), .int (nI 1), .ref aD, .int (fd 12), .int (fd 13), .int (fd 14), .long hh]))]) hPp6 tx wU hU at9 (by first | exact q8 | rfl) (by first | exact q9 | rfl) (by omega)) gX7_number_X7_sign rfl rfl rfl (by decide +kernel) B.1 ⟨Nat.le_of_ble_eq_true rfl, Nat.le_of_ble_eq_true rfl⟩ rfl rfl (Nat.le_of_ble_eq_true rfl) dX7_number_33 ⟨Nat.le_of_ble_eq_true rfl, Nat.le_of_ble_eq_true rfl⟩ [0, 1] [] (by decide : ([0, 1] ++ ([] : List Nat)).Perm (List.range 2)) rfl rfl 36 rfl (fun v0 R0 t0 ht0 hp0 => ?_)
      obtain ⟨rfl, rfl⟩ := hp0
      refine q_eqs (st' := [.int (nI (k_sg tx at9))]) rfl ?_
      refine q_eqR (Rs' := [[(h0, .inr (6, [.int (fd 0), .ref aS, .ref aZ, .ref aV, .int (fd 4), .ref aN, .int (fd 6), .ref aU, .int (fd 8), .int (fd 9), .int (nI 1), .ref aD, .int (fd 12), .int (fd 13), .int (fd 14), .long hh]))], wU]) rfl ?_
      have hs33 : k_sg tx at9 ≤ 126 := k_sg_le hU.1 _
      refine q_bipush (v := nI 48) C dX7_number_36 38 rfl (by decide) ?_
      refine q_isub (v := nI (k_sg tx at9 - 48)) C dX7_number_38 39 rfl (q_nsub (by omega) rfl) ?_
      refine q_istore_n C dX7_number_39 40 rfl [(3, .int (nI (k_sg tx at9 - 48))), (0, .ref h0), (1, .int (nI lo)), (2, .int (nI hi))] (by decide) rfl ?_
      refine q_aload_n C dX7_number_40 41 1 rfl rfl ?_
      refine q_dup C dX7_number_41 42 rfl rfl ?_
      refine q_get (k := 0) (j := 0) (f := 9) C hinX7 f132 (fun _ h => h) (by decide) rfl dX7_number_42 45 rfl rfl rfl rfl ?_
      refine q_eqs (st' := [.int (nI at9), .ref h0]) (by rw [q9]) ?_
      refine q_aload_n C dX7_number_45 46 1 rfl rfl ?_
      refine q_get (k := 0) (j := 0) (f := 10) C hinX7 f135 (fun _ h => h) (by decide) rfl dX7_number_46 49 rfl rfl rfl rfl ?_
      refine q_if_eq C dX7_number_49 52 56 rfl (by decide) (q_eq0 (by omega)) (fun h49 => False.elim (by first | omega | simp_all)) (fun h49 => ?_)
      refine q_iconst (v := nI 1) C dX7_number_52 53 rfl (by decide) ?_
      refine q_goto C dX7_number_53 57 (by decide) ?_
      refine q_iadd (v := nI (at9 + 1)) C dX7_number_57 58 rfl (q_nadd (by omega)) ?_
      refine q_put (k := 0) (j := 0) (f := 9) C hinX7 tyX7 tyX7_ok nmX7 f132 (fun _ h => h) (by decide) rfl rfl (tyX7_ok 9 (by decide)) rfl rfl dX7_number_58 61 rfl rfl rfl (Nat.le_of_ble_eq_true rfl) [[(h0, .inr (6, [.int (fd 0), .ref aS, .ref aZ, .ref aV, .int (fd 4), .ref aN, .int (fd 6), .ref aU, .int (fd 8), .int (nI (at9 + 1)), .int (nI 1), .ref aD, .int (fd 12), .int (fd 13), .int (fd 14), .long hh]))], wU] rfl ?_
      have hPp7 : k_isP cI h0 aS aZ aV aN aU aD (upd (upd fd 10 (nI 1)) 9 (nI (at9 + 1))) hh [(h0, .inr (6, [.int (fd 0), .ref aS, .ref aZ, .ref aV, .int (fd 4), .ref aN, .int (fd 6), .ref aU, .int (fd 8), .int (nI (at9 + 1)), .int (nI 1), .ref aD, .int (fd 12), .int (fd 13), .int (fd 14), .long hh]))] := rfl
      refine q_aload_n C dX7_number_61 62 1 rfl rfl ?_
      refine q_get (k := 0) (j := 0) (f := 10) C hinX7 f135 (fun _ h => h) (by decide) rfl dX7_number_62 65 rfl rfl rfl rfl ?_
      refine q_if_eq C dX7_number_65 68 125 rfl (by decide) (q_eq0 (by omega)) (fun h65 => False.elim (by first | omega | simp_all)) (fun h65 => ?_)
      refine q_iload_n C dX7_number_68 69 0 rfl rfl ?_
      refine q_if_le C dX7_number_69 72 125 rfl (by decide) (q_le0 (by omega)) (fun h69 => ?_) (fun h69 => ?_)
      · refine q_iload_n C dX7_number_125 126 0 rfl rfl ?_
        exact q_iret C B dX7_number_126 rfl rfl (fun t0 ht0 => ⟨by rw [k_nr_t (by simpa using h5) (by omega) (k_nv_1 (by omega))], _, by rw [k_nq_t (d := 1) (by simpa using h5) (by omega) (k_dw_1 (by omega) (by omega))]; exact hPp7, rfl⟩)
      · refine q_aload_n C dX7_number_72 73 1 rfl rfl ?_
        refine q_callV (k := 0) (ci := 6) (n := 0) (rest := []) (Rr := []) C rfl (k_isP_recv hPp7) rfl (c_X7_sign l hZ hI h0 aS aZ aV aN aU aD (upd (upd fd 10 (nI 1)) 9 (nI (at9 + 1))) hh ([(h0, .inr (6, [.int (fd 0), .ref aS, .ref aZ, .ref aV, .int (fd 4), .ref aN, .int (fd 6), .ref aU, .int (fd 8), .int (nI (at9 + 1)), .int (nI 1), .ref aD, .int (fd 12), .int (fd 13), .int (fd 14), .long hh]))]) hPp7 tx wU hU (at9 + 1) (by first | exact q8 | rfl) (by first | exact q9 | rfl) (by omega)) gX7_number_X7_sign rfl rfl rfl (by decide +kernel) B.1 ⟨Nat.le_of_ble_eq_true rfl, Nat.le_of_ble_eq_true rfl⟩ rfl rfl (Nat.le_of_ble_eq_true rfl) dX7_number_73 ⟨Nat.le_of_ble_eq_true rfl, Nat.le_of_ble_eq_true rfl⟩ [0, 1] [] (by decide : ([0, 1] ++ ([] : List Nat)).Perm (List.range 2)) rfl rfl 76 rfl (fun v0 R0 t0 ht0 hp0 => ?_)
        obtain ⟨rfl, rfl⟩ := hp0
        refine q_eqs (st' := [.int (nI (k_sg tx (at9 + 1)))]) rfl ?_
        refine q_eqR (Rs' := [[(h0, .inr (6, [.int (fd 0), .ref aS, .ref aZ, .ref aV, .int (fd 4), .ref aN, .int (fd 6), .ref aU, .int (fd 8), .int (nI (at9 + 1)), .int (nI 1), .ref aD, .int (fd 12), .int (fd 13), .int (fd 14), .long hh]))], wU]) rfl ?_
        have hs73 : k_sg tx (at9 + 1) ≤ 126 := k_sg_le hU.1 _
        refine q_bipush (v := nI 48) C dX7_number_76 78 rfl (by decide) ?_
        refine q_bipush (v := nI 57) C dX7_number_78 80 rfl (by decide) ?_
        refine q_callS (n := 3) (rest := []) (Rr := [[(h0, .inr (6, [.int (fd 0), .ref aS, .ref aZ, .ref aV, .int (fd 4), .ref aN, .int (fd 6), .ref aU, .int (fd 8), .int (nI (at9 + 1)), .int (nI 1), .ref aD, .int (fd 12), .int (fd 13), .int (fd 14), .long hh]))], wU]) C (c_X7_in l hZ hI (nI (k_sg tx (at9 + 1))) (nI 48) (nI 57)) gX7_number_X7_in rfl rfl rfl (by decide +kernel) B.1 ⟨Nat.le_of_ble_eq_true rfl, Nat.le_of_ble_eq_true rfl⟩ rfl rfl (Nat.le_of_ble_eq_true rfl) dX7_number_80 ⟨Nat.le_of_ble_eq_true rfl, Nat.le_of_ble_eq_true rfl⟩ [] [0, 1] (by decide : ([] ++ ([0, 1] : List Nat)).Perm (List.range 2)) rfl rfl 83 rfl (fun v0 R0 t0 ht0 hp0 => ?_)
        obtain ⟨rfl, rfl⟩ := hp0
        refine q_eqs (st' := [.int (q_b (decide ((nI 48) ≤ (nI (k_sg tx (at9 + 1))) ∧ (nI (k_sg tx (at9 + 1))) ≤ (nI 57))))]) rfl ?_
        refine q_eqR (Rs' := [[(h0, .inr (6, [.int (fd 0), .ref aS, .ref aZ, .ref aV, .int (fd 4), .ref aN, .int (fd 6), .ref aU, .int (fd 8), .int (nI (at9 + 1)), .int (nI 1), .ref aD, .int (fd 12), .int (fd 13), .int (fd 14), .long hh]))], wU]) rfl ?_
        refine q_if_eq (P := ¬ (48 ≤ k_sg tx (at9 + 1) ∧ k_sg tx (at9 + 1) ≤ 57)) C dX7_number_83 86 125 rfl (by decide) (k_in_iff (by omega) (by omega) (by omega)) (fun h83 => ?_) (fun h83 => ?_)
        · refine q_iload_n C dX7_number_125 126 0 rfl rfl ?_
          exact q_iret C B dX7_number_126 rfl rfl (fun t0 ht0 => ⟨by rw [k_nr_t (by simpa using h5) (by omega) (k_nv_1 (by omega))], _, by rw [k_nq_t (d := 1) (by simpa using h5) (by omega) (k_dw_1 (by omega) (by omega))]; exact hPp7, rfl⟩)
        · refine q_bipush (v := nI 10) C dX7_number_86 88 rfl (by decide) ?_
          refine q_iload_n C dX7_number_88 89 0 rfl rfl ?_
          refine q_imul (v := nI (10 * k_sg tx at9 - 480)) C dX7_number_89 90 rfl (q_nmul (by omega)) ?_
          refine q_aload_n C dX7_number_90 91 1 rfl rfl ?_
          refine q_callV (k := 0) (ci := 6) (n := 0) (rest := [.int (nI (10 * k_sg tx at9 - 480))]) (Rr := []) C rfl (k_isP_recv hPp7) rfl (c_X7_sign l hZ hI h0 aS aZ aV aN aU aD (upd (upd fd 10 (nI 1)) 9 (nI (at9 + 1))) hh ([(h0, .inr (6, [.int (fd 0), .ref aS, .ref aZ, .ref aV, .int (fd 4), .ref aN, .int (fd 6), .ref aU, .int (fd 8), .int (nI (at9 + 1)), .int (nI 1), .ref aD, .int (fd 12), .int (fd 13), .int (fd 14), .long hh]))]) hPp7 tx wU hU (at9 + 1) (by first | exact q8 | rfl) (by first | exact q9 | rfl) (by omega)) gX7_number_X7_sign rfl rfl rfl (by decide +kernel) B.1 ⟨Nat.le_of_ble_eq_true rfl, Nat.le_of_ble_eq_true rfl⟩ rfl rfl (Nat.le_of_ble_eq_true rfl) dX7_number_91 ⟨Nat.le_of_ble_eq_true rfl, Nat.le_of_ble_eq_true rfl⟩ [0, 1] [] (by decide : ([0, 1] ++ ([] : List Nat)).Perm (List.range 2)) rfl rfl 94 rfl (fun v0 R0 t0 ht0 hp0 => ?_)
          obtain ⟨rfl, rfl⟩ := hp0
          refine q_eqs (st' := [.int (nI (k_sg tx (at9 + 1))), .int (nI (10 * k_sg tx at9 - 480))]) rfl ?_
          refine q_eqR (Rs' := [[(h0, .inr (6, [.int (fd 0), .ref aS, .ref aZ, .ref aV, .int (fd 4), .ref aN, .int (fd 6), .ref aU, .int (fd 8), .int (nI (at9 + 1)), .int (nI 1), .ref aD, .int (fd 12), .int (fd 13), .int (fd 14), .long hh]))], wU]) rfl ?_
          have hs91 : k_sg tx (at9 + 1) ≤ 126 := k_sg_le hU.1 _
          refine q_iadd (v := nI (10 * k_sg tx at9 + k_sg tx (at9 + 1) - 480)) C dX7_number_94 95 rfl (q_nadd (by omega)) ?_
          refine q_bipush (v := nI 48) C dX7_number_95 97 rfl (by decide) ?_
          refine q_isub (v := nI (10 * k_sg tx at9 + k_sg tx (at9 + 1) - 528)) C dX7_number_97 98 rfl (q_nsub (by omega) (by omega)) ?_
          refine q_iload_n C dX7_number_98 99 3 rfl rfl ?_
          refine q_icmp_gt C dX7_number_99 102 125 rfl (by decide) (nI_ltI (by omega) (by omega)) (fun h99 => ?_) (fun h99 => ?_)
          · refine q_iload_n C dX7_number_125 126 0 rfl rfl ?_
            exact q_iret C B dX7_number_126 rfl rfl (fun t0 ht0 => ⟨by rw [k_nr_t (by simpa using h5) (by omega) (k_nv_1 (by omega))], _, by rw [k_nq_t (d := 1) (by simpa using h5) (by omega) (k_dw_1 (by omega) (by omega))]; exact hPp7, rfl⟩)
          · refine q_bipush (v := nI 10) C dX7_number_102 104 rfl (by decide) ?_
            refine q_iload_n C dX7_number_104 105 0 rfl rfl ?_
            refine q_imul (v := nI (10 * k_sg tx at9 - 480)) C dX7_number_105 106 rfl (q_nmul (by omega)) ?_
            refine q_aload_n C dX7_number_106 107 1 rfl rfl ?_
            refine q_callV (k := 0) (ci := 6) (n := 0) (rest := [.int (nI (10 * k_sg tx at9 - 480))]) (Rr := []) C rfl (k_isP_recv hPp7) rfl (c_X7_sign l hZ hI h0 aS aZ aV aN aU aD (upd (upd fd 10 (nI 1)) 9 (nI (at9 + 1))) hh ([(h0, .inr (6, [.int (fd 0), .ref aS, .ref aZ, .ref aV, .int (fd 4), .ref aN, .int (fd 6), .ref aU, .int (fd 8), .int (nI (at9 + 1)), .int (nI 1), .ref aD, .int (fd 12), .int (fd 13), .int (fd 14), .long hh]))]) hPp7 tx wU hU (at9 + 1) (by first | exact q8 | rfl) (by first | exact q9 | rfl) (by omega)) gX7_number_X7_sign rfl rfl rfl (by decide +kernel) B.1 ⟨Nat.le_of_ble_eq_true rfl, Nat.le_of_ble_eq_true rfl⟩ rfl rfl (Nat.le_of_ble_eq_true rfl) dX7_number_107 ⟨Nat.le_of_ble_eq_true rfl, Nat.le_of_ble_eq_true rfl⟩ [0, 1] [] (by decide : ([0, 1] ++ ([] : List Nat)).Perm (List.range 2)) rfl rfl 110 rfl (fun v0 R0 t0 ht0 hp0 => ?_)
            obtain ⟨rfl, rfl⟩ := hp0
            refine q_eqs (st' := [.int (nI (k_sg tx (at9 + 1))), .int (nI (10 * k_sg tx at9 - 480))]) rfl ?_
            refine q_eqR (Rs' := [[(h0, .inr (6, [.int (fd 0), .ref aS, .ref aZ, .ref aV, .int (fd 4), .ref aN, .int (fd 6), .ref aU, .int (fd 8), .int (nI (at9 + 1)), .int (nI 1), .ref aD, .int (fd 12), .int (fd 13), .int (fd 14), .long hh]))], wU]) rfl ?_
            have hs107 : k_sg tx (at9 + 1) ≤ 126 := k_sg_le hU.1 _
            refine q_iadd (v := nI (10 * k_sg tx at9 + k_sg tx (at9 + 1) - 480)) C dX7_number_110 111 rfl (q_nadd (by omega)) ?_
            refine q_bipush (v := nI 48) C dX7_number_111 113 rfl (by decide) ?_
            refine q_isub (v := nI (10 * k_sg tx at9 + k_sg tx (at9 + 1) - 528)) C dX7_number_113 114 rfl (q_nsub (by omega) (by omega)) ?_
            refine q_istore_n C dX7_number_114 115 rfl [(3, .int (nI (10 * k_sg tx at9 + k_sg tx (at9 + 1) - 528))), (0, .ref h0), (1, .int (nI lo)), (2, .int (nI hi))] (by decide) rfl ?_
            refine q_aload_n C dX7_number_115 116 1 rfl rfl ?_
            refine q_dup C dX7_number_116 117 rfl rfl ?_
            refine q_get (k := 0) (j := 0) (f := 9) C hinX7 f132 (fun _ h => h) (by decide) rfl dX7_number_117 120 rfl rfl rfl rfl ?_
            refine q_iconst (v := nI 1) C dX7_number_120 121 rfl (by decide) ?_
            refine q_iadd (v := nI (at9 + 2)) C dX7_number_121 122 rfl (q_nadd (by omega)) ?_
            refine q_put (k := 0) (j := 0) (f := 9) C hinX7 tyX7 tyX7_ok nmX7 f132 (fun _ h => h) (by decide) rfl rfl (tyX7_ok 9 (by decide)) rfl rfl dX7_number_122 125 rfl rfl rfl (Nat.le_of_ble_eq_true rfl) [[(h0, .inr (6, [.int (fd 0), .ref aS, .ref aZ, .ref aV, .int (fd 4), .ref aN, .int (fd 6), .ref aU, .int (fd 8), .int (nI (at9 + 2)), .int (nI 1), .ref aD, .int (fd 12), .int (fd 13), .int (fd 14), .long hh]))], wU] rfl ?_
            have hPp8 : k_isP cI h0 aS aZ aV aN aU aD (upd (upd (upd fd 10 (nI 1)) 9 (nI (at9 + 1))) 9 (nI (at9 + 2))) hh [(h0, .inr (6, [.int (fd 0), .ref aS, .ref aZ, .ref aV, .int (fd 4), .ref aN, .int (fd 6), .ref aU, .int (fd 8), .int (nI (at9 + 2)), .int (nI 1), .ref aD, .int (fd 12), .int (fd 13), .int (fd 14), .long hh]))] := rfl
            refine q_iload_n C dX7_number_125 126 0 rfl rfl ?_
            exact q_iret C B dX7_number_126 rfl rfl (fun t0 ht0 => ⟨by rw [k_nr_t (d := 10 * k_sg tx at9 + k_sg tx (at9 + 1) - 528) (by simpa using h5) (by omega) ((k_nv_2 (by omega)).trans (by omega))], _, by rw [k_nq_t (d := 2) (by simpa using h5) (by omega) (k_dw_2 (by omega) (by omega))]; exact hPp8, rfl⟩)

set_option maxHeartbeats 400000 in
set_option maxRecDepth 100000 in
theorem c_X7_wordOfS (l : Launch) {D : va_G} {tys : List (ClassId × FieldType)} {Z : (Nat → Prop) → State → Heap → Prop} (hZ : q_St Z) {cI : ClassId} (hI : tys[0]? = some (cI, .int)) (h0 : Nat) (aS : Nat) (aZ : Nat) (aV : Nat) (aN : Nat) (aU : Nat) (aD : Nat) (fd : Nat → Int32) (hh : Int64) (wP : va_W) (hP : k_isP cI h0 aS aZ aV aN aU aD fd hh wP) (tx : List Nat) (wU : va_W) (hU : k_isU cI aU tx wU) (at9 : Nat) (ok9 : Bool) (q8 : fd 8 = nI tx.length) (q9 : fd 9 = nI at9) (q10 : fd 10 = q_b ok9) (ha : at9 ≤ 980) : q_Ct l D tys Z yX7_wordOfS wsX7_wordOfS ({ frames := 4, cells := 0, slots := 0, locals := 132 } : Room) 0 0 [.ref h0] [wP, wU] (fun v0 R0 _ => v0 = some (.int (nI ((if k_sg tx at9 = 119 then 5 else 1)))) ∧ ∃ wP', k_isP cI h0 aS aZ aV aN aU aD (upd (upd fd 10 (q_b ((if k_sg tx at9 = 119 then k_wl tx [119, 97, 112, 58] (at9, ok9) else k_wl tx [101, 116, 58] (at9, ok9))).2)) 9 (nI ((if k_sg tx at9 = 119 then k_wl tx [119, 97, 112, 58] (at9, ok9) else k_wl tx [101, 116, 58] (at9, ok9))).1)) hh wP' ∧ R0 = [wP', wU]) := by
  have hcI := hI
  refine q_ct (cc := cX7_wordOfS) (maxL := 2) (ret := (some .int)) (own := RX7) (by decide) rfl hZ (Nat.le_of_ble_eq_true rfl) rfl ?_
  intro p9 e9 R s9 m9 args below meth c9 A Q C B
  have hts := C.2.2.2.2.1
  refine q_eqL (L' := [(0, .ref h0)]) rfl ?_
  have hw1 := k_wl_le tx [119, 97, 112] (at9, ok9)
  have hw2 := k_wt_le tx 101 (at9, ok9)
  have hw3 := k_wl_le tx [101, 116] (at9, ok9)
  refine q_aload_n C dX7_wordOfS_0 1 0 rfl rfl ?_
  refine q_callV (k := 0) (ci := 6) (n := 0) (rest := []) (Rr := []) C rfl (k_isP_recv hP) rfl (c_X7_sign l hZ hI h0 aS aZ aV aN aU aD fd hh wP hP tx wU hU at9 (by first | exact q8 | rfl) (by first | exact q9 | rfl) (by omega)) gX7_wordOfS_X7_sign rfl rfl rfl (by decide +kernel) B.1 ⟨Nat.le_of_ble_eq_true rfl, Nat.le_of_ble_eq_true rfl⟩ rfl rfl (Nat.le_of_ble_eq_true rfl) dX7_wordOfS_1 ⟨Nat.le_of_ble_eq_true rfl, Nat.le_of_ble_eq_true rfl⟩ [0, 1] [] (by decide : ([0, 1] ++ ([] : List Nat)).Perm (List.range 2)) rfl rfl 4 rfl (fun v0 R0 t0 ht0 hp0 => ?_)
  obtain ⟨rfl, rfl⟩ := hp0
  refine q_eqs (st' := [.int (nI (k_sg tx at9))]) rfl ?_
  refine q_eqR (Rs' := [wP, wU]) rfl ?_
  have hs1 : k_sg tx at9 ≤ 126 := k_sg_le hU.1 _
  refine q_bipush (v := nI 119) C dX7_wordOfS_4 6 rfl (by decide) ?_
  refine q_icmp_ne C dX7_wordOfS_6 9 13 rfl (by decide) (nI_eq (by omega) (by omega)) (fun h6 => ?_) (fun h6 => ?_)
  · refine q_iconst (v := nI 0) C dX7_wordOfS_13 14 rfl (by decide) ?_
    refine q_istore_n C dX7_wordOfS_14 15 rfl [(1, .int (nI 0)), (0, .ref h0)] (by decide) rfl ?_
    refine q_iload_n C dX7_wordOfS_15 16 0 rfl rfl ?_
    refine q_if_eq C dX7_wordOfS_16 19 32 rfl (by decide) (q_eq0 (by omega)) (fun h16 => ?_) (fun h16 => False.elim (by first | omega | simp_all))
    refine q_aload_n C dX7_wordOfS_32 33 1 rfl rfl ?_
    refine q_bipush (v := nI 101) C dX7_wordOfS_33 35 rfl (by decide) ?_
    refine q_callV (k := 0) (ci := 6) (n := 1) (rest := []) (Rr := []) C rfl (k_isP_recv hP) rfl (c_X7_wants l hZ hI h0 aS aZ aV aN aU aD fd hh wP hP tx wU hU 101 at9 ok9 (by first | exact q8 | rfl) (by first | exact q9 | rfl) (by first | exact q10 | rfl) (by omega) (by omega)) gX7_wordOfS_X7_wants rfl rfl rfl (by decide +kernel) B.1 ⟨Nat.le_of_ble_eq_true rfl, Nat.le_of_ble_eq_true rfl⟩ rfl rfl (Nat.le_of_ble_eq_true rfl) dX7_wordOfS_35 ⟨Nat.le_of_ble_eq_true rfl, Nat.le_of_ble_eq_true rfl⟩ [0, 1] [] (by decide : ([0, 1] ++ ([] : List Nat)).Perm (List.range 2)) rfl rfl 38 rfl (fun v0 R0 t0 ht0 hp0 => ?_)
    obtain ⟨rfl, wP_35, hwP_35, rfl⟩ := hp0
    refine q_eqs (st' := []) rfl ?_
    refine q_eqR (Rs' := [wP_35, wU]) rfl ?_
    refine q_aload_n C dX7_wordOfS_38 39 1 rfl rfl ?_
    refine q_bipush (v := nI 116) C dX7_wordOfS_39 41 rfl (by decide) ?_
    refine q_callV (k := 0) (ci := 6) (n := 1) (rest := []) (Rr := []) C rfl (k_isP_recv hwP_35) rfl (c_X7_wants l hZ hI h0 aS aZ aV aN aU aD (upd (upd fd 10 (q_b (k_wt tx 101 (at9, ok9)).2)) 9 (nI (k_wt tx 101 (at9, ok9)).1)) hh wP_35 hwP_35 tx wU hU 116 ((k_wt tx 101 (at9, ok9)).1) ((k_wt tx 101 (at9, ok9)).2) (by first | exact q8 | rfl) (by first | exact q9 | rfl) (by first | exact q10 | rfl) (Nat.le_trans hw2 (by show at9 + 1 ≤ 1000; omega)) (by omega)) gX7_wordOfS_X7_wants rfl rfl rfl (by decide +kernel) B.1 ⟨Nat.le_of_ble_eq_true rfl, Nat.le_of_ble_eq_true rfl⟩ rfl rfl (Nat.le_of_ble_eq_true rfl) dX7_wordOfS_41 ⟨Nat.le_of_ble_eq_true rfl, Nat.le_of_ble_eq_true rfl⟩ [0, 1] [] (by decide : ([0, 1] ++ ([] : List Nat)).Perm (List.range 2)) rfl rfl 44 rfl (fun v0 R0 t0 ht0 hp0 => ?_)
    obtain ⟨rfl, wP_41, hwP_41, rfl⟩ := hp0
    refine q_eqs (st' := []) rfl ?_
    refine q_eqR (Rs' := [wP_41, wU]) rfl ?_
    refine q_aload_n C dX7_wordOfS_44 45 1 rfl rfl ?_
    refine q_bipush (v := nI 58) C dX7_wordOfS_45 47 rfl (by decide) ?_
    refine q_callV (k := 0) (ci := 6) (n := 1) (rest := []) (Rr := []) C rfl (k_isP_recv hwP_41) rfl (c_X7_wants l hZ hI h0 aS aZ aV aN aU aD (upd (upd (upd (upd fd 10 (q_b (k_wt tx 101 (at9, ok9)).2)) 9 (nI (k_wt tx 101 (at9, ok9)).1)) 10 (q_b (k_wt tx 116 (((k_wt tx 101 (at9, ok9)).1), ((k_wt tx 101 (at9, ok9)).2))).2)) 9 (nI (k_wt tx 116 (((k_wt tx 101 (at9, ok9)).1), ((k_wt tx 101 (at9, ok9)).2))).1)) hh wP_41 hwP_41 tx wU hU 58 ((k_wt tx 116 (((k_wt tx 101 (at9, ok9)).1), ((k_wt tx 101 (at9, ok9)).2))).1) ((k_wt tx 116 (((k_wt tx 101 (at9, ok9)).1), ((k_wt tx 101 (at9, ok9)).2))).2) (by first | exact q8 | rfl) (by first | exact q9 | rfl) (by first | exact q10 | rfl) (by first | exact Nat.le_trans hw1 (by show at9 + 3 ≤ 1000; omega) | exact Nat.le_trans hw3 (by show at9 + 2 ≤ 1000; omega)) (by omega)) gX7_wordOfS_X7_wants rfl rfl rfl (by decide +kernel) B.1 ⟨Nat.le_of_ble_eq_true rfl, Nat.le_of_ble_eq_true rfl⟩ rfl rfl (Nat.le_of_ble_eq_true rfl) dX7_wordOfS_47 ⟨Nat.le_of_ble_eq_true rfl, Nat.le_of_ble_eq_true rfl⟩ [0, 1] [] (by decide : ([0, 1] ++ ([] : List Nat)).Perm (List.range 2)) rfl rfl 50 rfl (fun v0 R0 t0 ht0 hp0 => ?_)
    obtain ⟨rfl, wP_47, hwP_47, rfl⟩ := hp0
    refine q_eqs (st' := []) rfl ?_
    refine q_eqR (Rs' := [wP_47, wU]) rfl ?_
    refine q_iload_n C dX7_wordOfS_50 51 0 rfl rfl ?_
    refine q_if_eq C dX7_wordOfS_51 54 58 rfl (by decide) (q_eq0 (by omega)) (fun h51 => ?_) (fun h51 => False.elim (by first | omega | simp_all))
    refine q_iconst (v := nI 1) C dX7_wordOfS_58 59 rfl (by decide) ?_
    exact q_iret C B dX7_wordOfS_59 rfl rfl (fun t0 ht0 => ⟨by first | rw [if_pos (by omega)] | rw [if_neg (by omega)], _, by first | (rw [if_pos (by omega)]; exact hwP_47) | (rw [if_neg (by omega)]; exact hwP_47), rfl⟩)
  · refine q_iconst (v := nI 1) C dX7_wordOfS_9 10 rfl (by decide) ?_
    refine q_goto C dX7_wordOfS_10 14 (by decide) ?_
    refine q_istore_n C dX7_wordOfS_14 15 rfl [(1, .int (nI 1)), (0, .ref h0)] (by decide) rfl ?_
    refine q_iload_n C dX7_wordOfS_15 16 0 rfl rfl ?_
    refine q_if_eq C dX7_wordOfS_16 19 32 rfl (by decide) (q_eq0 (by omega)) (fun h16 => False.elim (by first | omega | simp_all)) (fun h16 => ?_)
    refine q_aload_n C dX7_wordOfS_19 20 1 rfl rfl ?_
    refine q_bipush (v := nI 119) C dX7_wordOfS_20 22 rfl (by decide) ?_
    refine q_bipush (v := nI 97) C dX7_wordOfS_22 24 rfl (by decide) ?_
    refine q_bipush (v := nI 112) C dX7_wordOfS_24 26 rfl (by decide) ?_
    refine q_callV (k := 0) (ci := 6) (n := 3) (rest := []) (Rr := []) C rfl (k_isP_recv hP) rfl (c_X7_wantsThree l hZ hI h0 aS aZ aV aN aU aD fd hh wP hP tx wU hU 119 97 112 at9 ok9 (by first | exact q8 | rfl) (by first | exact q9 | rfl) (by first | exact q10 | rfl) (by omega) (by omega) (by omega) (by omega)) gX7_wordOfS_X7_wantsThree rfl rfl rfl (by decide +kernel) B.1 ⟨Nat.le_of_ble_eq_true rfl, Nat.le_of_ble_eq_true rfl⟩ rfl rfl (Nat.le_of_ble_eq_true rfl) dX7_wordOfS_26 ⟨Nat.le_of_ble_eq_true rfl, Nat.le_of_ble_eq_true rfl⟩ [0, 1] [] (by decide : ([0, 1] ++ ([] : List Nat)).Perm (List.range 2)) rfl rfl 29 rfl (fun v0 R0 t0 ht0 hp0 => ?_)
    obtain ⟨rfl, wP_26, hwP_26, rfl⟩ := hp0
    refine q_eqs (st' := []) rfl ?_
    refine q_eqR (Rs' := [wP_26, wU]) rfl ?_
    refine q_goto C dX7_wordOfS_29 44 (by decide) ?_
    refine q_aload_n C dX7_wordOfS_44 45 1 rfl rfl ?_
    refine q_bipush (v := nI 58) C dX7_wordOfS_45 47 rfl (by decide) ?_
    refine q_callV (k := 0) (ci := 6) (n := 1) (rest := []) (Rr := []) C rfl (k_isP_recv hwP_26) rfl (c_X7_wants l hZ hI h0 aS aZ aV aN aU aD (upd (upd fd 10 (q_b (k_wl tx [119, 97, 112] (at9, ok9)).2)) 9 (nI (k_wl tx [119, 97, 112] (at9, ok9)).1)) hh wP_26 hwP_26 tx wU hU 58 ((k_wl tx [119, 97, 112] (at9, ok9)).1) ((k_wl tx [119, 97, 112] (at9, ok9)).2) (by first | exact q8 | rfl) (by first | exact q9 | rfl) (by first | exact q10 | rfl) (by first | exact Nat.le_trans hw1 (by show at9 + 3 ≤ 1000; omega) | exact Nat.le_trans hw3 (by show at9 + 2 ≤ 1000; omega)) (by omega)) gX7_wordOfS_X7_wants rfl rfl rfl (by decide +kernel) B.1 ⟨Nat.le_of_ble_eq_true rfl, Nat.le_of_ble_eq_true rfl⟩ rfl rfl (Nat.le_of_ble_eq_true rfl) dX7_wordOfS_47 ⟨Nat.le_of_ble_eq_true rfl, Nat.le_of_ble_eq_true rfl⟩ [0, 1] [] (by decide : ([0, 1] ++ ([] : List Nat)).Perm (List.range 2)) rfl rfl 50 rfl (fun v0 R0 t0 ht0 hp0 => ?_)
    obtain ⟨rfl, wP_47, hwP_47, rfl⟩ := hp0
    refine q_eqs (st' := []) rfl ?_
    refine q_eqR (Rs' := [wP_47, wU]) rfl ?_
    refine q_iload_n C dX7_wordOfS_50 51 0 rfl rfl ?_
    refine q_if_eq C dX7_wordOfS_51 54 58 rfl (by decide) (q_eq0 (by omega)) (fun h51 => False.elim (by first | omega | simp_all)) (fun h51 => ?_)
    refine q_iconst (v := nI 5) C dX7_wordOfS_54 55 rfl (by decide) ?_
    refine q_goto C dX7_wordOfS_55 59 (by decide) ?_
    exact q_iret C B dX7_wordOfS_59 rfl rfl (fun t0 ht0 => ⟨by first | rw [if_pos (by omega)] | rw [if_neg (by omega)], _, by first | (rw [if_pos (by omega)]; exact hwP_47) | (rw [if_neg (by omega)]; exact hwP_47), rfl⟩)

set_option maxHeartbeats 400000 in
set_option maxRecDepth 100000 in
theorem c_X7_word (l : Launch) {D : va_G} {tys : List (ClassId × FieldType)} {Z : (Nat → Prop) → State → Heap → Prop} (hZ : q_St Z) {cI : ClassId} (hI : tys[0]? = some (cI, .int)) (h0 : Nat) (aS : Nat) (aZ : Nat) (aV : Nat) (aN : Nat) (aU : Nat) (aD : Nat) (fd : Nat → Int32) (hh : Int64) (wP : va_W) (hP : k_isP cI h0 aS aZ aV aN aU aD fd hh wP) (tx : List Nat) (wU : va_W) (hU : k_isU cI aU tx wU) (at9 : Nat) (q8 : fd 8 = nI tx.length) (q9 : fd 9 = nI at9) (ha : at9 ≤ 970) : q_Ct l D tys Z yX7_word wsX7_word ({ frames := 5, cells := 0, slots := 0, locals := 162 } : Room) 0 0 [.ref h0] [wP, wU] (fun v0 R0 _ => v0 = some (.int (nI (k_kd tx at9))) ∧ ∃ wP', k_isP cI h0 aS aZ aV aN aU aD (upd (upd fd 10 (q_b (k_wl tx (k_wo (k_kd tx at9)) (at9, true)).2)) 9 (nI (k_wl tx (k_wo (k_kd tx at9)) (at9, true)).1)) hh wP' ∧ R0 = [wP', wU]) := by
  have hcI := hI
  refine q_ct (cc := cX7_word) (maxL := 2) (ret := (some .int)) (own := RX7) (by decide) rfl hZ (Nat.le_of_ble_eq_true rfl) rfl ?_
  intro p9 e9 R s9 m9 args below meth c9 A Q C B
  have hts := C.2.2.2.2.1
  have hinX7 : ∀ w ∈ u_ws RX7 TX7 16, w ∈ wsX7_word := by decide +kernel
  have f135 := hts (.fieldLink RX7 135 "SortCasesModel" "isWell" "Z") (by decide +kernel)
  have f132 := hts (.fieldLink RX7 132 "SortCasesModel" "at" "I") (by decide +kernel)
  refine q_eqL (L' := [(0, .ref h0)]) rfl ?_
  have hw1 := k_wt_le tx 105 (at9 + 1, true)
  refine q_aload_n C dX7_word_0 1 0 rfl rfl ?_
  refine q_callV (k := 0) (ci := 6) (n := 0) (rest := []) (Rr := []) C rfl (k_isP_recv hP) rfl (c_X7_sign l hZ hI h0 aS aZ aV aN aU aD fd hh wP hP tx wU hU at9 (by first | exact q8 | rfl) (by first | exact q9 | rfl) (by omega)) gX7_word_X7_sign rfl rfl rfl (by decide +kernel) B.1 ⟨Nat.le_of_ble_eq_true rfl, Nat.le_of_ble_eq_true rfl⟩ rfl rfl (Nat.le_of_ble_eq_true rfl) dX7_word_1 ⟨Nat.le_of_ble_eq_true rfl, Nat.le_of_ble_eq_true rfl⟩ [0, 1] [] (by decide : ([0, 1] ++ ([] : List Nat)).Perm (List.range 2)) rfl rfl 4 rfl (fun v0 R0 t0 ht0 hp0 => ?_)
  obtain ⟨rfl, rfl⟩ := hp0
  refine q_eqs (st' := [.int (nI (k_sg tx at9))]) rfl ?_
  refine q_eqR (Rs' := [wP, wU]) rfl ?_
  have hs1 : k_sg tx at9 ≤ 126 := k_sg_le hU.1 _
  refine q_istore_n C dX7_word_4 5 rfl [(1, .int (nI (k_sg tx at9))), (0, .ref h0)] (by decide) rfl ?_
  refine q_aload_n C dX7_word_5 6 1 rfl rfl ?_
  refine q_iload_n C dX7_word_6 7 0 rfl rfl ?_
  refine q_bipush (v := nI 115) C dX7_word_7 9 rfl (by decide) ?_
  refine q_icmp_eq C dX7_word_9 12 30 rfl (by decide) (nI_eq (by omega) (by omega)) (fun h9 => ?_) (fun h9 => ?_)
  · refine q_iconst (v := nI 1) C dX7_word_30 31 rfl (by decide) ?_
    refine q_goto C dX7_word_31 35 (by decide) ?_
    obtain rfl := hP
    have hPo1 : k_isP cI h0 aS aZ aV aN aU aD fd hh [(h0, .inr (6, [.int (fd 0), .ref aS, .ref aZ, .ref aV, .int (fd 4), .ref aN, .int (fd 6), .ref aU, .int (fd 8), .int (fd 9), .int (fd 10), .ref aD, .int (fd 12), .int (fd 13), .int (fd 14), .long hh]))] := rfl
    refine q_put (k := 0) (j := 0) (f := 10) C hinX7 tyX7 tyX7_ok nmX7 f135 (fun _ h => h) (by decide) rfl rfl (tyX7_ok 10 (by decide)) (by decide) rfl dX7_word_35 38 rfl rfl rfl (Nat.le_of_ble_eq_true rfl) [[(h0, .inr (6, [.int (fd 0), .ref aS, .ref aZ, .ref aV, .int (fd 4), .ref aN, .int (fd 6), .ref aU, .int (fd 8), .int (fd 9), .int (nI 1), .ref aD, .int (fd 12), .int (fd 13), .int (fd 14), .long hh]))], wU] rfl ?_
    have hPp2 : k_isP cI h0 aS aZ aV aN aU aD (upd fd 10 (nI 1)) hh [(h0, .inr (6, [.int (fd 0), .ref aS, .ref aZ, .ref aV, .int (fd 4), .ref aN, .int (fd 6), .ref aU, .int (fd 8), .int (fd 9), .int (nI 1), .ref aD, .int (fd 12), .int (fd 13), .int (fd 14), .long hh]))] := rfl
    refine q_aload_n C dX7_word_38 39 1 rfl rfl ?_
    refine q_dup C dX7_word_39 40 rfl rfl ?_
    refine q_get (k := 0) (j := 0) (f := 9) C hinX7 f132 (fun _ h => h) (by decide) rfl dX7_word_40 43 rfl rfl rfl rfl ?_
    refine q_eqs (st' := [.int (nI at9), .ref h0]) (by rw [q9]) ?_
    refine q_aload_n C dX7_word_43 44 1 rfl rfl ?_
    refine q_get (k := 0) (j := 0) (f := 10) C hinX7 f135 (fun _ h => h) (by decide) rfl dX7_word_44 47 rfl rfl rfl rfl ?_
    refine q_if_eq C dX7_word_47 50 54 rfl (by decide) (q_eq0 (by omega)) (fun h47 => False.elim (by first | omega | simp_all)) (fun h47 => ?_)
    refine q_iconst (v := nI 1) C dX7_word_50 51 rfl (by decide) ?_
    refine q_goto C dX7_word_51 55 (by decide) ?_
    refine q_iadd (v := nI (at9 + 1)) C dX7_word_55 56 rfl (q_nadd (by omega)) ?_
    refine q_put (k := 0) (j := 0) (f := 9) C hinX7 tyX7 tyX7_ok nmX7 f132 (fun _ h => h) (by decide) rfl rfl (tyX7_ok 9 (by decide)) rfl rfl dX7_word_56 59 rfl rfl rfl (Nat.le_of_ble_eq_true rfl) [[(h0, .inr (6, [.int (fd 0), .ref aS, .ref aZ, .ref aV, .int (fd 4), .ref aN, .int (fd 6), .ref aU, .int (fd 8), .int (nI (at9 + 1)), .int (nI 1), .ref aD, .int (fd 12), .int (fd 13), .int (fd 14), .long hh]))], wU] rfl ?_
    have hPp3 : k_isP cI h0 aS aZ aV aN aU aD (upd (upd fd 10 (nI 1)) 9 (nI (at9 + 1))) hh [(h0, .inr (6, [.int (fd 0), .ref aS, .ref aZ, .ref aV, .int (fd 4), .ref aN, .int (fd 6), .ref aU, .int (fd 8), .int (nI (at9 + 1)), .int (nI 1), .ref aD, .int (fd 12), .int (fd 13), .int (fd 14), .long hh]))] := rfl
    refine q_iload_n C dX7_word_59 60 0 rfl rfl ?_
    refine q_eqs (st' := [.int (nI 115)]) (by rw [h9]) ?_
    refine q_lookup (off := 36) C dX7_word_60 96 (by decide) (by decide) (by decide) ?_
    refine q_aload_n C dX7_word_96 97 1 rfl rfl ?_
    refine q_callV (k := 0) (ci := 6) (n := 0) (rest := []) (Rr := []) C rfl (k_isP_recv hPp3) rfl (c_X7_wordOfS l hZ hI h0 aS aZ aV aN aU aD (upd (upd fd 10 (nI 1)) 9 (nI (at9 + 1))) hh ([(h0, .inr (6, [.int (fd 0), .ref aS, .ref aZ, .ref aV, .int (fd 4), .ref aN, .int (fd 6), .ref aU, .int (fd 8), .int (nI (at9 + 1)), .int (nI 1), .ref aD, .int (fd 12), .int (fd 13), .int (fd 14), .long hh]))]) hPp3 tx wU hU (at9 + 1) true (by first | exact q8 | rfl) (by first | exact q9 | rfl) (by first | exact q10 | rfl) (by omega)) gX7_word_X7_wordOfS rfl rfl rfl (by decide +kernel) B.1 ⟨Nat.le_of_ble_eq_true rfl, Nat.le_of_ble_eq_true rfl⟩ rfl rfl (Nat.le_of_ble_eq_true rfl) dX7_word_97 ⟨Nat.le_of_ble_eq_true rfl, Nat.le_of_ble_eq_true rfl⟩ [0, 1] [] (by decide : ([0, 1] ++ ([] : List Nat)).Perm (List.range 2)) rfl rfl 100 rfl (fun v0 R0 t0 ht0 hp0 => ?_)
    obtain ⟨rfl, wP_97, hwP_97, rfl⟩ := hp0
    refine q_eqs (st' := [.int (nI (if k_sg tx (at9 + 1) = 119 then 5 else 1))]) rfl ?_
    refine q_eqR (Rs' := [wP_97, wU]) rfl ?_
    exact q_iret C B dX7_word_100 rfl rfl (fun t0 ht0 => ⟨by rw [show k_kd tx at9 = (if k_sg tx (at9 + 1) = 119 then 5 else 1) from if_pos h9], _, by rw [show k_kd tx at9 = (if k_sg tx (at9 + 1) = 119 then 5 else 1) from if_pos h9]; exact (by have hz := hwP_97; by_cases e : k_sg tx (at9 + 1) = 119 <;> (first | rw [if_pos e] at hz ⊢ | rw [if_neg e] at hz ⊢) <;> (show k_isP _ _ _ _ _ _ _ _ (upd (upd fd 10 (q_b (k_wl tx _ (k_wt tx 115 (at9, true))).2)) 9 (nI (k_wl tx _ (k_wt tx 115 (at9, true))).1)) _ _; rw [k_wt_t rfl h9]; exact hz)), rfl⟩)
  · refine q_iload_n C dX7_word_12 13 0 rfl rfl ?_
    refine q_bipush (v := nI 102) C dX7_word_13 15 rfl (by decide) ?_
    refine q_icmp_eq C dX7_word_15 18 30 rfl (by decide) (nI_eq (by omega) (by omega)) (fun h15 => ?_) (fun h15 => ?_)
    · refine q_iconst (v := nI 1) C dX7_word_30 31 rfl (by decide) ?_
      refine q_goto C dX7_word_31 35 (by decide) ?_
      obtain rfl := hP
      have hPo4 : k_isP cI h0 aS aZ aV aN aU aD fd hh [(h0, .inr (6, [.int (fd 0), .ref aS, .ref aZ, .ref aV, .int (fd 4), .ref aN, .int (fd 6), .ref aU, .int (fd 8), .int (fd 9), .int (fd 10), .ref aD, .int (fd 12), .int (fd 13), .int (fd 14), .long hh]))] := rfl
      refine q_put (k := 0) (j := 0) (f := 10) C hinX7 tyX7 tyX7_ok nmX7 f135 (fun _ h => h) (by decide) rfl rfl (tyX7_ok 10 (by decide)) (by decide) rfl dX7_word_35 38 rfl rfl rfl (Nat.le_of_ble_eq_true rfl) [[(h0, .inr (6, [.int (fd 0), .ref aS, .ref aZ, .ref aV, .int (fd 4), .ref aN, .int (fd 6), .ref aU, .int (fd 8), .int (fd 9), .int (nI 1), .ref aD, .int (fd 12), .int (fd 13), .int (fd 14), .long hh]))], wU] rfl ?_
      have hPp5 : k_isP cI h0 aS aZ aV aN aU aD (upd fd 10 (nI 1)) hh [(h0, .inr (6, [.int (fd 0), .ref aS, .ref aZ, .ref aV, .int (fd 4), .ref aN, .int (fd 6), .ref aU, .int (fd 8), .int (fd 9), .int (nI 1), .ref aD, .int (fd 12), .int (fd 13), .int (fd 14), .long hh]))] := rfl
      refine q_aload_n C dX7_word_38 39 1 rfl rfl ?_
      refine q_dup C dX7_word_39 40 rfl rfl ?_
      refine q_get (k := 0) (j := 0) (f := 9) C hinX7 f132 (fun _ h => h) (by decide) rfl dX7_word_40 43 rfl rfl rfl rfl ?_
      refine q_eqs (st' := [.int (nI at9), .ref h0]) (by rw [q9]) ?_
      refine q_aload_n C dX7_word_43 44 1 rfl rfl ?_
      refine q_get (k := 0) (j := 0) (f := 10) C hinX7 f135 (fun _ h => h) (by decide) rfl dX7_word_44 47 rfl rfl rfl rfl ?_
      refine q_if_eq C dX7_word_47 50 54 rfl (by decide) (q_eq0 (by omega)) (fun h47 => False.elim (by first | omega | simp_all)) (fun h47 => ?_)
      refine q_iconst (v := nI 1) C dX7_word_50 51 rfl (by decide) ?_
      refine q_goto C dX7_word_51 55 (by decide) ?_
      refine q_iadd (v := nI (at9 + 1)) C dX7_word_55 56 rfl (q_nadd (by omega)) ?_
      refine q_put (k := 0) (j := 0) (f := 9) C hinX7 tyX7 tyX7_ok nmX7 f132 (fun _ h => h) (by decide) rfl rfl (tyX7_ok 9 (by decide)) rfl rfl dX7_word_56 59 rfl rfl rfl (Nat.le_of_ble_eq_true rfl) [[(h0, .inr (6, [.int (fd 0), .ref aS, .ref aZ, .ref aV, .int (fd 4), .ref aN, .int (fd 6), .ref aU, .int (fd 8), .int (nI (at9 + 1)), .int (nI 1), .ref aD, .int (fd 12), .int (fd 13), .int (fd 14), .long hh]))], wU] rfl ?_
      have hPp6 : k_isP cI h0 aS aZ aV aN aU aD (upd (upd fd 10 (nI 1)) 9 (nI (at9 + 1))) hh [(h0, .inr (6, [.int (fd 0), .ref aS, .ref aZ, .ref aV, .int (fd 4), .ref aN, .int (fd 6), .ref aU, .int (fd 8), .int (nI (at9 + 1)), .int (nI 1), .ref aD, .int (fd 12), .int (fd 13), .int (fd 14), .long hh]))] := rfl
      refine q_iload_n C dX7_word_59 60 0 rfl rfl ?_
      refine q_eqs (st' := [.int (nI 102)]) (by rw [h15]) ?_
      refine q_lookup (off := 41) C dX7_word_60 101 (by decide) (by decide) (by decide) ?_
      refine q_aload_n C dX7_word_101 102 1 rfl rfl ?_
      refine q_bipush (v := nI 105) C dX7_word_102 104 rfl (by decide) ?_
      refine q_callV (k := 0) (ci := 6) (n := 1) (rest := []) (Rr := []) C rfl (k_isP_recv hPp6) rfl (c_X7_wants l hZ hI h0 aS aZ aV aN aU aD (upd (upd fd 10 (nI 1)) 9 (nI (at9 + 1))) hh ([(h0, .inr (6, [.int (fd 0), .ref aS, .ref aZ, .ref aV, .int (fd 4), .ref aN, .int (fd 6), .ref aU, .int (fd 8), .int (nI (at9 + 1)), .int (nI 1), .ref aD, .int (fd 12), .int (fd 13), .int (fd 14), .long hh]))]) hPp6 tx wU hU 105 (at9 + 1) true (by first | exact q8 | rfl) (by first | exact q9 | rfl) (by first | exact q10 | rfl) (by omega) (by omega)) gX7_word_X7_wants rfl rfl rfl (by decide +kernel) B.1 ⟨Nat.le_of_ble_eq_true rfl, Nat.le_of_ble_eq_true rfl⟩ rfl rfl (Nat.le_of_ble_eq_true rfl) dX7_word_104 ⟨Nat.le_of_ble_eq_true rfl, Nat.le_of_ble_eq_true rfl⟩ [0, 1] [] (by decide : ([0, 1] ++ ([] : List Nat)).Perm (List.range 2)) rfl rfl 107 rfl (fun v0 R0 t0 ht0 hp0 => ?_)
      obtain ⟨rfl, wP_104, hwP_104, rfl⟩ := hp0
      refine q_eqs (st' := []) rfl ?_
      refine q_eqR (Rs' := [wP_104, wU]) rfl ?_
      refine q_aload_n C dX7_word_107 108 1 rfl rfl ?_
      refine q_bipush (v := nI 120) C dX7_word_108 110 rfl (by decide) ?_
      refine q_callV (k := 0) (ci := 6) (n := 1) (rest := []) (Rr := []) C rfl (k_isP_recv hwP_104) rfl (c_X7_wants l hZ hI h0 aS aZ aV aN aU aD (upd (upd (upd (upd fd 10 (nI 1)) 9 (nI (at9 + 1))) 10 (q_b (k_wt tx 105 ((at9 + 1), true)).2)) 9 (nI (k_wt tx 105 ((at9 + 1), true)).1)) hh wP_104 hwP_104 tx wU hU 120 ((k_wt tx 105 ((at9 + 1), true)).1) ((k_wt tx 105 ((at9 + 1), true)).2) (by first | exact q8 | rfl) (by first | exact q9 | rfl) (by first | exact q10 | rfl) (Nat.le_trans hw1 (by show at9 + 1 + 1 ≤ 1000; omega)) (by omega)) gX7_word_X7_wants rfl rfl rfl (by decide +kernel) B.1 ⟨Nat.le_of_ble_eq_true rfl, Nat.le_of_ble_eq_true rfl⟩ rfl rfl (Nat.le_of_ble_eq_true rfl) dX7_word_110 ⟨Nat.le_of_ble_eq_true rfl, Nat.le_of_ble_eq_true rfl⟩ [0, 1] [] (by decide : ([0, 1] ++ ([] : List Nat)).Perm (List.range 2)) rfl rfl 113 rfl (fun v0 R0 t0 ht0 hp0 => ?_)
      obtain ⟨rfl, wP_110, hwP_110, rfl⟩ := hp0
      refine q_eqs (st' := []) rfl ?_
      refine q_eqR (Rs' := [wP_110, wU]) rfl ?_
      refine q_iconst (v := nI 2) C dX7_word_113 114 rfl (by decide) ?_
      exact q_iret C B dX7_word_114 rfl rfl (fun t0 ht0 => ⟨by rw [show k_kd tx at9 = 2 from (if_neg (by omega)).trans (if_pos h15)], _, by rw [show k_kd tx at9 = 2 from (if_neg (by omega)).trans (if_pos h15)]; show k_isP _ _ _ _ _ _ _ _ (upd (upd fd 10 (q_b (k_wl tx _ (k_wt tx 102 (at9, true))).2)) 9 (nI (k_wl tx _ (k_wt tx 102 (at9, true))).1)) _ _; rw [k_wt_t rfl (by omega)]; exact hwP_110, rfl⟩)
    · refine q_iload_n C dX7_word_18 19 0 rfl rfl ?_
      refine q_bipush (v := nI 98) C dX7_word_19 21 rfl (by decide) ?_
      refine q_icmp_eq C dX7_word_21 24 30 rfl (by decide) (nI_eq (by omega) (by omega)) (fun h21 => ?_) (fun h21 => ?_)
      · refine q_iconst (v := nI 1) C dX7_word_30 31 rfl (by decide) ?_
        refine q_goto C dX7_word_31 35 (by decide) ?_
        obtain rfl := hP
        have hPo7 : k_isP cI h0 aS aZ aV aN aU aD fd hh [(h0, .inr (6, [.int (fd 0), .ref aS, .ref aZ, .ref aV, .int (fd 4), .ref aN, .int (fd 6), .ref aU, .int (fd 8), .int (fd 9), .int (fd 10), .ref aD, .int (fd 12), .int (fd 13), .int (fd 14), .long hh]))] := rfl
        refine q_put (k := 0) (j := 0) (f := 10) C hinX7 tyX7 tyX7_ok nmX7 f135 (fun _ h => h) (by decide) rfl rfl (tyX7_ok 10 (by decide)) (by decide) rfl dX7_word_35 38 rfl rfl rfl (Nat.le_of_ble_eq_true rfl) [[(h0, .inr (6, [.int (fd 0), .ref aS, .ref aZ, .ref aV, .int (fd 4), .ref aN, .int (fd 6), .ref aU, .int (fd 8), .int (fd 9), .int (nI 1), .ref aD, .int (fd 12), .int (fd 13), .int (fd 14), .long hh]))], wU] rfl ?_
        have hPp8 : k_isP cI h0 aS aZ aV aN aU aD (upd fd 10 (nI 1)) hh [(h0, .inr (6, [.int (fd 0), .ref aS, .ref aZ, .ref aV, .int (fd 4), .ref aN, .int (fd 6), .ref aU, .int (fd 8), .int (fd 9), .int (nI 1), .ref aD, .int (fd 12), .int (fd 13), .int (fd 14), .long hh]))] := rfl
        refine q_aload_n C dX7_word_38 39 1 rfl rfl ?_
        refine q_dup C dX7_word_39 40 rfl rfl ?_
        refine q_get (k := 0) (j := 0) (f := 9) C hinX7 f132 (fun _ h => h) (by decide) rfl dX7_word_40 43 rfl rfl rfl rfl ?_
        refine q_eqs (st' := [.int (nI at9), .ref h0]) (by rw [q9]) ?_
        refine q_aload_n C dX7_word_43 44 1 rfl rfl ?_
        refine q_get (k := 0) (j := 0) (f := 10) C hinX7 f135 (fun _ h => h) (by decide) rfl dX7_word_44 47 rfl rfl rfl rfl ?_
        refine q_if_eq C dX7_word_47 50 54 rfl (by decide) (q_eq0 (by omega)) (fun h47 => False.elim (by first | omega | simp_all)) (fun h47 => ?_)
        refine q_iconst (v := nI 1) C dX7_word_50 51 rfl (by decide) ?_
        refine q_goto C dX7_word_51 55 (by decide) ?_
        refine q_iadd (v := nI (at9 + 1)) C dX7_word_55 56 rfl (q_nadd (by omega)) ?_
        refine q_put (k := 0) (j := 0) (f := 9) C hinX7 tyX7 tyX7_ok nmX7 f132 (fun _ h => h) (by decide) rfl rfl (tyX7_ok 9 (by decide)) rfl rfl dX7_word_56 59 rfl rfl rfl (Nat.le_of_ble_eq_true rfl) [[(h0, .inr (6, [.int (fd 0), .ref aS, .ref aZ, .ref aV, .int (fd 4), .ref aN, .int (fd 6), .ref aU, .int (fd 8), .int (nI (at9 + 1)), .int (nI 1), .ref aD, .int (fd 12), .int (fd 13), .int (fd 14), .long hh]))], wU] rfl ?_
        have hPp9 : k_isP cI h0 aS aZ aV aN aU aD (upd (upd fd 10 (nI 1)) 9 (nI (at9 + 1))) hh [(h0, .inr (6, [.int (fd 0), .ref aS, .ref aZ, .ref aV, .int (fd 4), .ref aN, .int (fd 6), .ref aU, .int (fd 8), .int (nI (at9 + 1)), .int (nI 1), .ref aD, .int (fd 12), .int (fd 13), .int (fd 14), .long hh]))] := rfl
        refine q_iload_n C dX7_word_59 60 0 rfl rfl ?_
        refine q_eqs (st' := [.int (nI 98)]) (by rw [h21]) ?_
        refine q_lookup (off := 55) C dX7_word_60 115 (by decide) (by decide) (by decide) ?_
        refine q_aload_n C dX7_word_115 116 1 rfl rfl ?_
        refine q_bipush (v := nI 97) C dX7_word_116 118 rfl (by decide) ?_
        refine q_bipush (v := nI 99) C dX7_word_118 120 rfl (by decide) ?_
        refine q_bipush (v := nI 107) C dX7_word_120 122 rfl (by decide) ?_
        refine q_callV (k := 0) (ci := 6) (n := 3) (rest := []) (Rr := []) C rfl (k_isP_recv hPp9) rfl (c_X7_wantsThree l hZ hI h0 aS aZ aV aN aU aD (upd (upd fd 10 (nI 1)) 9 (nI (at9 + 1))) hh ([(h0, .inr (6, [.int (fd 0), .ref aS, .ref aZ, .ref aV, .int (fd 4), .ref aN, .int (fd 6), .ref aU, .int (fd 8), .int (nI (at9 + 1)), .int (nI 1), .ref aD, .int (fd 12), .int (fd 13), .int (fd 14), .long hh]))]) hPp9 tx wU hU 97 99 107 (at9 + 1) true (by first | exact q8 | rfl) (by first | exact q9 | rfl) (by first | exact q10 | rfl) (by omega) (by omega) (by omega) (by omega)) gX7_word_X7_wantsThree rfl rfl rfl (by decide +kernel) B.1 ⟨Nat.le_of_ble_eq_true rfl, Nat.le_of_ble_eq_true rfl⟩ rfl rfl (Nat.le_of_ble_eq_true rfl) dX7_word_122 ⟨Nat.le_of_ble_eq_true rfl, Nat.le_of_ble_eq_true rfl⟩ [0, 1] [] (by decide : ([0, 1] ++ ([] : List Nat)).Perm (List.range 2)) rfl rfl 125 rfl (fun v0 R0 t0 ht0 hp0 => ?_)
        obtain ⟨rfl, wP_122, hwP_122, rfl⟩ := hp0
        refine q_eqs (st' := []) rfl ?_
        refine q_eqR (Rs' := [wP_122, wU]) rfl ?_
        refine q_iconst (v := nI 3) C dX7_word_125 126 rfl (by decide) ?_
        exact q_iret C B dX7_word_126 rfl rfl (fun t0 ht0 => ⟨by rw [show k_kd tx at9 = 3 from (if_neg (by omega)).trans ((if_neg (by omega)).trans (if_pos h21))], _, by rw [show k_kd tx at9 = 3 from (if_neg (by omega)).trans ((if_neg (by omega)).trans (if_pos h21))]; show k_isP _ _ _ _ _ _ _ _ (upd (upd fd 10 (q_b (k_wl tx _ (k_wt tx 98 (at9, true))).2)) 9 (nI (k_wl tx _ (k_wt tx 98 (at9, true))).1)) _ _; rw [k_wt_t rfl (by omega)]; exact hwP_122, rfl⟩)
      · refine q_iload_n C dX7_word_24 25 0 rfl rfl ?_
        refine q_bipush (v := nI 105) C dX7_word_25 27 rfl (by decide) ?_
        refine q_icmp_ne C dX7_word_27 30 34 rfl (by decide) (nI_eq (by omega) (by omega)) (fun h27 => ?_) (fun h27 => ?_)
        · refine q_iconst (v := nI 0) C dX7_word_34 35 rfl (by decide) ?_
          obtain rfl := hP
          have hPo10 : k_isP cI h0 aS aZ aV aN aU aD fd hh [(h0, .inr (6, [.int (fd 0), .ref aS, .ref aZ, .ref aV, .int (fd 4), .ref aN, .int (fd 6), .ref aU, .int (fd 8), .int (fd 9), .int (fd 10), .ref aD, .int (fd 12), .int (fd 13), .int (fd 14), .long hh]))] := rfl
          refine q_put (k := 0) (j := 0) (f := 10) C hinX7 tyX7 tyX7_ok nmX7 f135 (fun _ h => h) (by decide) rfl rfl (tyX7_ok 10 (by decide)) (by decide) rfl dX7_word_35 38 rfl rfl rfl (Nat.le_of_ble_eq_true rfl) [[(h0, .inr (6, [.int (fd 0), .ref aS, .ref aZ, .ref aV, .int (fd 4), .ref aN, .int (fd 6), .ref aU, .int (fd 8), .int (fd 9), .int (nI 0), .ref aD, .int (fd 12), .int (fd 13), .int (fd 14), .long hh]))], wU] rfl ?_
          have hPp11 : k_isP cI h0 aS aZ aV aN aU aD (upd fd 10 (nI 0)) hh [(h0, .inr (6, [.int (fd 0), .ref aS, .ref aZ, .ref aV, .int (fd 4), .ref aN, .int (fd 6), .ref aU, .int (fd 8), .int (fd 9), .int (nI 0), .ref aD, .int (fd 12), .int (fd 13), .int (fd 14), .long hh]))] := rfl
          refine q_aload_n C dX7_word_38 39 1 rfl rfl ?_
          refine q_dup C dX7_word_39 40 rfl rfl ?_
          refine q_get (k := 0) (j := 0) (f := 9) C hinX7 f132 (fun _ h => h) (by decide) rfl dX7_word_40 43 rfl rfl rfl rfl ?_
          refine q_eqs (st' := [.int (nI at9), .ref h0]) (by rw [q9]) ?_
          refine q_aload_n C dX7_word_43 44 1 rfl rfl ?_
          refine q_get (k := 0) (j := 0) (f := 10) C hinX7 f135 (fun _ h => h) (by decide) rfl dX7_word_44 47 rfl rfl rfl rfl ?_
          refine q_if_eq C dX7_word_47 50 54 rfl (by decide) (q_eq0 (by omega)) (fun h47 => ?_) (fun h47 => False.elim (by first | omega | simp_all))
          refine q_iconst (v := nI 0) C dX7_word_54 55 rfl (by decide) ?_
          refine q_iadd (v := nI at9) C dX7_word_55 56 rfl (q_nadd (by omega)) ?_
          refine q_put (k := 0) (j := 0) (f := 9) C hinX7 tyX7 tyX7_ok nmX7 f132 (fun _ h => h) (by decide) rfl rfl (tyX7_ok 9 (by decide)) rfl rfl dX7_word_56 59 rfl rfl rfl (Nat.le_of_ble_eq_true rfl) [[(h0, .inr (6, [.int (fd 0), .ref aS, .ref aZ, .ref aV, .int (fd 4), .ref aN, .int (fd 6), .ref aU, .int (fd 8), .int (nI at9), .int (nI 0), .ref aD, .int (fd 12), .int (fd 13), .int (fd 14), .long hh]))], wU] rfl ?_
          have hPp12 : k_isP cI h0 aS aZ aV aN aU aD (upd (upd fd 10 (nI 0)) 9 (nI at9)) hh [(h0, .inr (6, [.int (fd 0), .ref aS, .ref aZ, .ref aV, .int (fd 4), .ref aN, .int (fd 6), .ref aU, .int (fd 8), .int (nI at9), .int (nI 0), .ref aD, .int (fd 12), .int (fd 13), .int (fd 14), .long hh]))] := rfl
          refine q_iload_n C dX7_word_59 60 0 rfl rfl ?_
          refine q_lookup (off := 67) C dX7_word_60 127 (by decide) (k_look (by omega) (by omega) (by omega) (by omega)) (by decide) ?_
          refine q_aload_n C dX7_word_127 128 1 rfl rfl ?_
          refine q_bipush (v := nI 100) C dX7_word_128 130 rfl (by decide) ?_
          refine q_bipush (v := nI 108) C dX7_word_130 132 rfl (by decide) ?_
          refine q_bipush (v := nI 101) C dX7_word_132 134 rfl (by decide) ?_
          refine q_callV (k := 0) (ci := 6) (n := 3) (rest := []) (Rr := []) C rfl (k_isP_recv hPp12) rfl (c_X7_wantsThree l hZ hI h0 aS aZ aV aN aU aD (upd (upd fd 10 (nI 0)) 9 (nI at9)) hh ([(h0, .inr (6, [.int (fd 0), .ref aS, .ref aZ, .ref aV, .int (fd 4), .ref aN, .int (fd 6), .ref aU, .int (fd 8), .int (nI at9), .int (nI 0), .ref aD, .int (fd 12), .int (fd 13), .int (fd 14), .long hh]))]) hPp12 tx wU hU 100 108 101 at9 false (by first | exact q8 | rfl) (by first | exact q9 | rfl) (by first | exact q10 | rfl) (by omega) (by omega) (by omega) (by omega)) gX7_word_X7_wantsThree rfl rfl rfl (by decide +kernel) B.1 ⟨Nat.le_of_ble_eq_true rfl, Nat.le_of_ble_eq_true rfl⟩ rfl rfl (Nat.le_of_ble_eq_true rfl) dX7_word_134 ⟨Nat.le_of_ble_eq_true rfl, Nat.le_of_ble_eq_true rfl⟩ [0, 1] [] (by decide : ([0, 1] ++ ([] : List Nat)).Perm (List.range 2)) rfl rfl 137 rfl (fun v0 R0 t0 ht0 hp0 => ?_)
          obtain ⟨rfl, wP_134, hwP_134, rfl⟩ := hp0
          refine q_eqs (st' := []) rfl ?_
          refine q_eqR (Rs' := [wP_134, wU]) rfl ?_
          refine q_iconst (v := nI 4) C dX7_word_137 138 rfl (by decide) ?_
          exact q_iret C B dX7_word_138 rfl rfl (fun t0 ht0 => ⟨by rw [show k_kd tx at9 = 4 from (if_neg (by omega)).trans ((if_neg (by omega)).trans (if_neg (by omega)))], _, by rw [show k_kd tx at9 = 4 from (if_neg (by omega)).trans ((if_neg (by omega)).trans (if_neg (by omega)))]; show k_isP _ _ _ _ _ _ _ _ (upd (upd fd 10 (q_b (k_wl tx _ (k_wt tx 105 (at9, true))).2)) 9 (nI (k_wl tx _ (k_wt tx 105 (at9, true))).1)) _ _; rw [k_wt_f2 (by omega)]; exact hwP_134, rfl⟩)
        · refine q_iconst (v := nI 1) C dX7_word_30 31 rfl (by decide) ?_
          refine q_goto C dX7_word_31 35 (by decide) ?_
          obtain rfl := hP
          have hPo13 : k_isP cI h0 aS aZ aV aN aU aD fd hh [(h0, .inr (6, [.int (fd 0), .ref aS, .ref aZ, .ref aV, .int (fd 4), .ref aN, .int (fd 6), .ref aU, .int (fd 8), .int (fd 9), .int (fd 10), .ref aD, .int (fd 12), .int (fd 13), .int (fd 14), .long hh]))] := rfl
          refine q_put (k := 0) (j := 0) (f := 10) C hinX7 tyX7 tyX7_ok nmX7 f135 (fun _ h => h) (by decide) rfl rfl (tyX7_ok 10 (by decide)) (by decide) rfl dX7_word_35 38 rfl rfl rfl (Nat.le_of_ble_eq_true rfl) [[(h0, .inr (6, [.int (fd 0), .ref aS, .ref aZ, .ref aV, .int (fd 4), .ref aN, .int (fd 6), .ref aU, .int (fd 8), .int (fd 9), .int (nI 1), .ref aD, .int (fd 12), .int (fd 13), .int (fd 14), .long hh]))], wU] rfl ?_
          have hPp14 : k_isP cI h0 aS aZ aV aN aU aD (upd fd 10 (nI 1)) hh [(h0, .inr (6, [.int (fd 0), .ref aS, .ref aZ, .ref aV, .int (fd 4), .ref aN, .int (fd 6), .ref aU, .int (fd 8), .int (fd 9), .int (nI 1), .ref aD, .int (fd 12), .int (fd 13), .int (fd 14), .long hh]))] := rfl
          refine q_aload_n C dX7_word_38 39 1 rfl rfl ?_
          refine q_dup C dX7_word_39 40 rfl rfl ?_
          refine q_get (k := 0) (j := 0) (f := 9) C hinX7 f132 (fun _ h => h) (by decide) rfl dX7_word_40 43 rfl rfl rfl rfl ?_
          refine q_eqs (st' := [.int (nI at9), .ref h0]) (by rw [q9]) ?_
          refine q_aload_n C dX7_word_43 44 1 rfl rfl ?_
          refine q_get (k := 0) (j := 0) (f := 10) C hinX7 f135 (fun _ h => h) (by decide) rfl dX7_word_44 47 rfl rfl rfl rfl ?_
          refine q_if_eq C dX7_word_47 50 54 rfl (by decide) (q_eq0 (by omega)) (fun h47 => False.elim (by first | omega | simp_all)) (fun h47 => ?_)
          refine q_iconst (v := nI 1) C dX7_word_50 51 rfl (by decide) ?_
          refine q_goto C dX7_word_51 55 (by decide) ?_
          refine q_iadd (v := nI (at9 + 1)) C dX7_word_55 56 rfl (q_nadd (by omega)) ?_
          refine q_put (k := 0) (j := 0) (f := 9) C hinX7 tyX7 tyX7_ok nmX7 f132 (fun _ h => h) (by decide) rfl rfl (tyX7_ok 9 (by decide)) rfl rfl dX7_word_56 59 rfl rfl rfl (Nat.le_of_ble_eq_true rfl) [[(h0, .inr (6, [.int (fd 0), .ref aS, .ref aZ, .ref aV, .int (fd 4), .ref aN, .int (fd 6), .ref aU, .int (fd 8), .int (nI (at9 + 1)), .int (nI 1), .ref aD, .int (fd 12), .int (fd 13), .int (fd 14), .long hh]))], wU] rfl ?_
          have hPp15 : k_isP cI h0 aS aZ aV aN aU aD (upd (upd fd 10 (nI 1)) 9 (nI (at9 + 1))) hh [(h0, .inr (6, [.int (fd 0), .ref aS, .ref aZ, .ref aV, .int (fd 4), .ref aN, .int (fd 6), .ref aU, .int (fd 8), .int (nI (at9 + 1)), .int (nI 1), .ref aD, .int (fd 12), .int (fd 13), .int (fd 14), .long hh]))] := rfl
          refine q_iload_n C dX7_word_59 60 0 rfl rfl ?_
          refine q_eqs (st' := [.int (nI 105)]) (by rw [show k_sg tx at9 = 105 by omega]) ?_
          refine q_lookup (off := 67) C dX7_word_60 127 (by decide) (by decide) (by decide) ?_
          refine q_aload_n C dX7_word_127 128 1 rfl rfl ?_
          refine q_bipush (v := nI 100) C dX7_word_128 130 rfl (by decide) ?_
          refine q_bipush (v := nI 108) C dX7_word_130 132 rfl (by decide) ?_
          refine q_bipush (v := nI 101) C dX7_word_132 134 rfl (by decide) ?_
          refine q_callV (k := 0) (ci := 6) (n := 3) (rest := []) (Rr := []) C rfl (k_isP_recv hPp15) rfl (c_X7_wantsThree l hZ hI h0 aS aZ aV aN aU aD (upd (upd fd 10 (nI 1)) 9 (nI (at9 + 1))) hh ([(h0, .inr (6, [.int (fd 0), .ref aS, .ref aZ, .ref aV, .int (fd 4), .ref aN, .int (fd 6), .ref aU, .int (fd 8), .int (nI (at9 + 1)), .int (nI 1), .ref aD, .int (fd 12), .int (fd 13), .int (fd 14), .long hh]))]) hPp15 tx wU hU 100 108 101 (at9 + 1) true (by first | exact q8 | rfl) (by first | exact q9 | rfl) (by first | exact q10 | rfl) (by omega) (by omega) (by omega) (by omega)) gX7_word_X7_wantsThree rfl rfl rfl (by decide +kernel) B.1 ⟨Nat.le_of_ble_eq_true rfl, Nat.le_of_ble_eq_true rfl⟩ rfl rfl (Nat.le_of_ble_eq_true rfl) dX7_word_134 ⟨Nat.le_of_ble_eq_true rfl, Nat.le_of_ble_eq_true rfl⟩ [0, 1] [] (by decide : ([0, 1] ++ ([] : List Nat)).Perm (List.range 2)) rfl rfl 137 rfl (fun v0 R0 t0 ht0 hp0 => ?_)
          obtain ⟨rfl, wP_134, hwP_134, rfl⟩ := hp0
          refine q_eqs (st' := []) rfl ?_
          refine q_eqR (Rs' := [wP_134, wU]) rfl ?_
          refine q_iconst (v := nI 4) C dX7_word_137 138 rfl (by decide) ?_
          exact q_iret C B dX7_word_138 rfl rfl (fun t0 ht0 => ⟨by rw [show k_kd tx at9 = 4 from (if_neg (by omega)).trans ((if_neg (by omega)).trans (if_neg (by omega)))], _, by rw [show k_kd tx at9 = 4 from (if_neg (by omega)).trans ((if_neg (by omega)).trans (if_neg (by omega)))]; show k_isP _ _ _ _ _ _ _ _ (upd (upd fd 10 (q_b (k_wl tx _ (k_wt tx 105 (at9, true))).2)) 9 (nI (k_wl tx _ (k_wt tx 105 (at9, true))).1)) _ _; rw [k_wt_t rfl (by omega)]; exact hwP_134, rfl⟩)
