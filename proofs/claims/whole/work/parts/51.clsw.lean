set_option maxHeartbeats 400000 in
set_option maxRecDepth 100000 in
theorem c_X6_doPart (l : Launch) {D : va_G} {tys : List (ClassId × FieldType)} {Z : (Nat → Prop) → State → Heap → Prop} (hZ : q_St Z) {cI : ClassId} (hI : tys[0]? = some (cI, .int)) (hN : q_Ns Z) {ad aw av : Nat → Nat} {tK : Nat} (hKs : q_Ks Z ad aw av tK) (h0 : Nat) (aO : Nat) (aY : Nat) (aN : Nat) (hsn : Int32) (aT : Nat) (aK : Nat) (wX : va_W) (hX : k_isX cI h0 aO aY aN hsn aT aK wX) (aB : Nat) (aL : Nat) (aS : Nat) (sc : Nat → Int32) (wO : va_W) (hO : k_isO cI aO aB aL aS sc wO) (wA : va_W) (hA : k_isA cI aS sc wA) (bx : k_Bx) (at0 : Nat) (wB : va_W) (hB : k_isB cI aB bx at0 wB) (ln : List (Nat × Nat)) (wL : va_W) (hL : k_isL cI aL ln wL) (tx : List Nat) (wT : va_W) (hT : k_isT cI aT tx wT) (sa : Nat) (e : Nat) (hsw : k_Sw (bx, at0, ln, sc)) (hok : k_okp tx sa = true) (hme : k_mx tx sa = e) (hae : sa ≤ e) (hel : e ≤ tx.length) (hblk : k_blk tx e) : q_Ct l D tys Z yX6_doPart wsX6_doPart ({ frames := 7, cells := 0, slots := 0, locals := 222 } : Room) 0 0 [.ref h0, .int (nI sa), .int (nI e)] [wX, wO, wA, wB, wL, wT] (fun v0 R0 _ => v0 = some (.int (nI ((k_dpt tx (bx, at0, ln, sc) sa).2))) ∧ ∃ wO', k_isO cI aO aB aL aS ((k_dpt tx (bx, at0, ln, sc) sa).1.2.2.2) wO' ∧ ∃ wA', k_isA cI aS ((k_dpt tx (bx, at0, ln, sc) sa).1.2.2.2) wA' ∧ ∃ wB', k_isB cI aB ((k_dpt tx (bx, at0, ln, sc) sa).1.1) ((k_dpt tx (bx, at0, ln, sc) sa).1.2.1) wB' ∧ ∃ wL', k_isL cI aL ((k_dpt tx (bx, at0, ln, sc) sa).1.2.2.1) wL' ∧ R0 = [wX, wO', wA', wB', wL', wT]) := by
  have hcI := hI
  refine q_ct (cc := cX6_doPart) (maxL := 5) (ret := (some .int)) (own := RX6) (by decide) rfl hZ (Nat.le_of_ble_eq_true rfl) rfl ?_
  intro p9 e9 R s9 m9 args below meth c9 A Q C B
  have hts := C.2.2.2.2.1
  have hinX6 : ∀ w ∈ u_ws RX6 TX6 6, w ∈ wsX6_doPart := by decide +kernel
  have f33 := hts (.fieldLink RX6 33 "SortCases" "text" "LSortCases$Text;") (by decide +kernel)
  have f314 := q_nsb hN C (by decide +kernel : Cond.fieldLinkNest "SortCases" 314 "SortCases$PartKind" "word" "Ljava/lang/String;" "SortCases" ∈ q_nest) rfl
  have f324 := hts (.fieldLink RX6 324 "SortCases$PartKind" "SET" "LSortCases$PartKind;") (by decide +kernel)
  have f331 := hts (.fieldLink RX6 331 "SortCases$PartKind" "FIX" "LSortCases$PartKind;") (by decide +kernel)
  have f340 := hts (.fieldLink RX6 340 "SortCases$PartKind" "BACK" "LSortCases$PartKind;") (by decide +kernel)
  have f346 := hts (.fieldLink RX6 346 "SortCases$PartKind" "IDLE" "LSortCases$PartKind;") (by decide +kernel)
  have f12 := hts (.fieldLink RX6 12 "SortCases" "state" "LSortCases$State;") (by decide +kernel)
  refine q_eqL (L' := [(0, .ref h0), (1, .int (nI sa)), (2, .int (nI e))]) rfl ?_
  have htl := hT.1.1
  refine q_aload_n C dX6_doPart_0 1 0 rfl rfl ?_
  obtain rfl := hX
  have hXox1 : k_isX cI h0 aO aY aN hsn aT aK [(h0, .inr (5, [.ref aO, .ref aY, .ref aN, .int hsn, .ref aT, .ref aK]))] := rfl
  refine q_get (k := 0) (j := 0) (f := 4) C hinX6 f33 (fun _ h => h) (by decide) rfl dX6_doPart_1 4 rfl rfl rfl rfl ?_
  refine q_iload_n C dX6_doPart_4 5 1 rfl rfl ?_
  refine q_iload_n C dX6_doPart_5 6 2 rfl rfl ?_
  refine q_callV (k := 5) (ci := 4) (n := 2) (rest := []) (Rr := [[(h0, .inr (5, [.ref aO, .ref aY, .ref aN, .int hsn, .ref aT, .ref aK]))], wO, wA, wB, wL]) C rfl (k_isT_recv hT) rfl (c_X5_kindOf_a l hZ hI hN hKs aT tx wT hT sa e (by omega) (by omega) hblk hok hme) gX6_doPart_X5_kindOf rfl rfl rfl (by decide +kernel) B.1 ⟨Nat.le_of_ble_eq_true rfl, Nat.le_of_ble_eq_true rfl⟩ rfl rfl (Nat.le_of_ble_eq_true rfl) dX6_doPart_6 ⟨(Nat.le_of_ble_eq_true rfl), (Nat.le_of_ble_eq_true rfl)⟩ [5] [0, 1, 2, 3, 4] (by decide : ([5] ++ ([0, 1, 2, 3, 4] : List Nat)).Perm (List.range 6)) rfl rfl 9 rfl (fun v0 R0 t0 ht0 hp0 => ?_)
  obtain ⟨rfl, rfl⟩ := hp0
  refine q_eqs (st' := [.ref ((ad (k_kd tx sa - 1)))]) rfl ?_
  refine q_reord [1, 2, 3, 4, 5, 0] (by decide : ([1, 2, 3, 4, 5, 0] : List Nat).Perm (List.range 6)) (Rs' := [[(h0, .inr (5, [.ref aO, .ref aY, .ref aN, .int hsn, .ref aT, .ref aK]))], wO, wA, wB, wL, wT]) rfl rfl ?_
  have hkd := k_kd_lt tx sa
  obtain hk1 | hk2 | hk3 | hk4 | hk5 : k_kd tx sa = 1 ∨ k_kd tx sa = 2 ∨ k_kd tx sa = 3 ∨ k_kd tx sa = 4 ∨ k_kd tx sa = 5 := by omega
  · refine q_eqs (st' := [.ref ((ad 0))]) (by rw [hk1]) ?_
    have hdp := k_dpt_1 (tx := tx) (S := (bx, at0, ln, sc)) (a := sa) hk1
    have hmxx := k_okp_mx hok hk1
    have hisx := k_okp_is hok hk1
    have hwl : (k_wo 1).length = 4 := rfl
    have hsh : k_sho 1 = 5 := rfl
    rw [hwl] at hmxx hisx
    refine q_astore_n C dX6_doPart_9 10 rfl [(3, .ref ((ad 0))), (0, .ref h0), (1, .int (nI sa)), (2, .int (nI e))] (by decide) rfl ?_
    refine q_aload_n C dX6_doPart_10 11 0 rfl rfl ?_
    refine q_ifnonnull C dX6_doPart_11 16 (by decide) ?_
    refine q_iload_n C dX6_doPart_16 17 2 rfl rfl ?_
    refine q_aload_n C dX6_doPart_17 18 0 rfl rfl ?_
    refine q_getoN C (q_kwd (q_kc hKs C) (i := 0) (by omega)) f314 (fun _ h => h) dX6_doPart_18 21 rfl ?_
    refine q_callVA (n := 0) (rest := [.int (nI sa)]) (Rr := [[(h0, .inr (5, [.ref aO, .ref aY, .ref aN, .int hsn, .ref aT, .ref aK]))], wO, wA, wB, wL, wT]) C (q_kwo (q_kc hKs C) (i := 0) (by omega)) (c_J0_length_8abf5 l hZ hI hKs 0 (by omega)) gX6_doPart_J0_length_8abf5 rfl rfl rfl (by decide +kernel) B.1 ⟨Nat.le_of_ble_eq_true rfl, Nat.le_of_ble_eq_true rfl⟩ rfl rfl (Nat.le_of_ble_eq_true rfl) dX6_doPart_21 ⟨(Nat.le_of_ble_eq_true rfl), (Nat.le_of_ble_eq_true rfl)⟩ [] [0, 1, 2, 3, 4, 5] (by decide : ([] ++ ([0, 1, 2, 3, 4, 5] : List Nat)).Perm (List.range 6)) rfl rfl 24 rfl (fun v0 R0 t0 ht0 hp0 => ?_)
    obtain ⟨rfl, rfl⟩ := hp0
    refine q_eqs (st' := [.int (nI ((k_wo (0 + 1)).length)), .int (nI sa)]) rfl ?_
    refine q_eqR (Rs' := [[(h0, .inr (5, [.ref aO, .ref aY, .ref aN, .int hsn, .ref aT, .ref aK]))], wO, wA, wB, wL, wT]) rfl ?_
    refine q_eqs (st' := [.int (nI 4), .int (nI sa)]) rfl ?_
    refine q_iadd (v := nI (sa + 4)) C dX6_doPart_24 25 rfl (q_nadd (by omega)) ?_
    refine q_istore C dX6_doPart_25 27 rfl [(4, .int (nI (sa + 4))), (3, .ref ((ad 0))), (0, .ref h0), (1, .int (nI sa)), (2, .int (nI e))] (by decide) rfl ?_
    have hrs : k_rs tx 1 (sa + 4) = k_lw tx 60 (sa + 4) := rfl
    refine q_aload_n C dX6_doPart_27 28 1 rfl rfl ?_
    refine q_gets (n := "SET") (v := .ref ((ad 0))) C (q_kst (q_kc hKs C) (i := 0) (by decide)) f324 (fun _ h => h) dX6_doPart_28 31 rfl ?_
    refine q_acmp_ner C dX6_doPart_31 34 42 rfl (by decide) (fun h31 => False.elim (h31 rfl)) (fun h31 => ?_)
    refine q_aload_n C dX6_doPart_34 35 2 rfl rfl ?_
    refine q_iload C dX6_doPart_35 37 0 rfl rfl ?_
    refine q_iload_n C dX6_doPart_37 38 4 rfl rfl ?_
    refine q_callV (k := 0) (ci := 5) (n := 2) (rest := []) (Rr := []) C rfl (k_isX_recv hXox1) rfl (c_X6_setLetters l hZ hI hN h0 aO aY aN hsn aT aK ([(h0, .inr (5, [.ref aO, .ref aY, .ref aN, .int hsn, .ref aT, .ref aK]))]) hXox1 aB aL aS sc wO hO wA hA bx at0 wB hB ln wL hL tx wT hT (sa + 4) e (k_lw tx 60 (sa + 4)) (by omega) (by omega) (by omega) (fun j hj => k_lw_all hj)) gX6_doPart_X6_setLetters rfl rfl rfl (by decide +kernel) B.1 ⟨Nat.le_of_ble_eq_true rfl, Nat.le_of_ble_eq_true rfl⟩ rfl rfl (Nat.le_of_ble_eq_true rfl) dX6_doPart_38 ⟨(Nat.le_of_ble_eq_true rfl), (Nat.le_of_ble_eq_true rfl)⟩ [0, 1, 2, 3, 4, 5] [] (by decide : ([0, 1, 2, 3, 4, 5] ++ ([] : List Nat)).Perm (List.range 6)) rfl rfl 41 rfl (fun v0 R0 t0 ht0 hp0 => ?_)
    obtain ⟨rfl, wO_38, hwO_38, wA_38, hwA_38, wB_38, hwB_38, wL_38, hwL_38, rfl⟩ := hp0
    refine q_eqs (st' := [.int (nI ((k_sl tx (k_lw tx 60 (sa + 4)) (sa + 4) (bx, at0, ln, sc)).2))]) rfl ?_
    refine q_eqR (Rs' := [[(h0, .inr (5, [.ref aO, .ref aY, .ref aN, .int hsn, .ref aT, .ref aK]))], wO_38, wA_38, wB_38, wL_38, wT]) rfl ?_
    exact q_iret C B dX6_doPart_41 rfl rfl (fun t0 ht0 => by rw [hdp]; exact ⟨rfl, _, hwO_38, _, hwA_38, _, hwB_38, _, hwL_38, by first | rfl | simp⟩)
  · refine q_eqs (st' := [.ref ((ad 1))]) (by rw [hk2]) ?_
    have hdp := k_dpt_2 (tx := tx) (S := (bx, at0, ln, sc)) (a := sa) hk2
    have hmxx := k_okp_mx hok hk2
    have hisx := k_okp_is hok hk2
    have hwl : (k_wo 2).length = 3 := rfl
    have hsh : k_sho 2 = 4 := rfl
    rw [hwl] at hmxx hisx
    refine q_astore_n C dX6_doPart_9 10 rfl [(3, .ref ((ad 1))), (0, .ref h0), (1, .int (nI sa)), (2, .int (nI e))] (by decide) rfl ?_
    refine q_aload_n C dX6_doPart_10 11 0 rfl rfl ?_
    refine q_ifnonnull C dX6_doPart_11 16 (by decide) ?_
    refine q_iload_n C dX6_doPart_16 17 2 rfl rfl ?_
    refine q_aload_n C dX6_doPart_17 18 0 rfl rfl ?_
    refine q_getoN C (q_kwd (q_kc hKs C) (i := 1) (by omega)) f314 (fun _ h => h) dX6_doPart_18 21 rfl ?_
    refine q_callVA (n := 0) (rest := [.int (nI sa)]) (Rr := [[(h0, .inr (5, [.ref aO, .ref aY, .ref aN, .int hsn, .ref aT, .ref aK]))], wO, wA, wB, wL, wT]) C (q_kwo (q_kc hKs C) (i := 1) (by omega)) (c_J0_length_8abf5 l hZ hI hKs 1 (by omega)) gX6_doPart_J0_length_8abf5 rfl rfl rfl (by decide +kernel) B.1 ⟨Nat.le_of_ble_eq_true rfl, Nat.le_of_ble_eq_true rfl⟩ rfl rfl (Nat.le_of_ble_eq_true rfl) dX6_doPart_21 ⟨(Nat.le_of_ble_eq_true rfl), (Nat.le_of_ble_eq_true rfl)⟩ [] [0, 1, 2, 3, 4, 5] (by decide : ([] ++ ([0, 1, 2, 3, 4, 5] : List Nat)).Perm (List.range 6)) rfl rfl 24 rfl (fun v0 R0 t0 ht0 hp0 => ?_)
    obtain ⟨rfl, rfl⟩ := hp0
    refine q_eqs (st' := [.int (nI ((k_wo (1 + 1)).length)), .int (nI sa)]) rfl ?_
    refine q_eqR (Rs' := [[(h0, .inr (5, [.ref aO, .ref aY, .ref aN, .int hsn, .ref aT, .ref aK]))], wO, wA, wB, wL, wT]) rfl ?_
    refine q_eqs (st' := [.int (nI 3), .int (nI sa)]) rfl ?_
    refine q_iadd (v := nI (sa + 3)) C dX6_doPart_24 25 rfl (q_nadd (by omega)) ?_
    refine q_istore C dX6_doPart_25 27 rfl [(4, .int (nI (sa + 3))), (3, .ref ((ad 1))), (0, .ref h0), (1, .int (nI sa)), (2, .int (nI e))] (by decide) rfl ?_
    have hrs : k_rs tx 2 (sa + 3) = k_dw tx 0 40 (sa + 3) := rfl
    have hdwp := k_dw_pos (tx := tx) (lo := 0) (hi := 40) (i := sa + 3) (by omega)
    have hnv := k_nv_le (hi := 40) (by decide) hdwp
    refine q_aload_n C dX6_doPart_27 28 1 rfl rfl ?_
    refine q_gets (n := "SET") (v := .ref ((ad 0))) C (q_kst (q_kc hKs C) (i := 0) (by decide)) f324 (fun _ h => h) dX6_doPart_28 31 rfl ?_
    refine q_acmp_ner C dX6_doPart_31 34 42 rfl (by decide) (fun h31 => ?_) (fun h31 => False.elim (absurd ((q_kne (q_kc hKs C) (i := 1) (j := 0) (by omega) (by omega)).mp h31) (by decide)))
    refine q_aload_n C dX6_doPart_42 43 1 rfl rfl ?_
    refine q_gets (n := "FIX") (v := .ref ((ad 1))) C (q_kst (q_kc hKs C) (i := 1) (by decide)) f331 (fun _ h => h) dX6_doPart_43 46 rfl ?_
    refine q_acmp_ner C dX6_doPart_46 49 64 rfl (by decide) (fun h46 => False.elim (h46 rfl)) (fun h46 => ?_)
    refine q_aload_n C dX6_doPart_49 50 2 rfl rfl ?_
    refine q_aload_n C dX6_doPart_50 51 2 rfl rfl ?_
    refine q_get (k := 0) (j := 0) (f := 4) C hinX6 f33 (fun _ h => h) (by decide) rfl dX6_doPart_51 54 rfl rfl rfl rfl ?_
    refine q_iload C dX6_doPart_54 56 0 rfl rfl ?_
    refine q_iload_n C dX6_doPart_56 57 4 rfl rfl ?_
    refine q_callV (k := 5) (ci := 4) (n := 2) (rest := [.ref h0]) (Rr := [[(h0, .inr (5, [.ref aO, .ref aY, .ref aN, .int hsn, .ref aT, .ref aK]))], wO, wA, wB, wL]) C rfl (k_isT_recv hT) rfl (c_X5_numberIn l hZ hI aT tx wT hT (sa + 3) e 0 40 (by omega) (by omega) (by omega) (by omega)) gX6_doPart_X5_numberIn rfl rfl rfl (by decide +kernel) B.1 ⟨Nat.le_of_ble_eq_true rfl, Nat.le_of_ble_eq_true rfl⟩ rfl rfl (Nat.le_of_ble_eq_true rfl) dX6_doPart_57 ⟨(Nat.le_of_ble_eq_true rfl), (Nat.le_of_ble_eq_true rfl)⟩ [5] [0, 1, 2, 3, 4] (by decide : ([5] ++ ([0, 1, 2, 3, 4] : List Nat)).Perm (List.range 6)) rfl rfl 60 rfl (fun v0 R0 t0 ht0 hp0 => ?_)
    obtain ⟨rfl, rfl⟩ := hp0
    refine q_eqs (st' := [.int (nI (k_nv tx 40 (sa + 3))), .ref h0]) rfl ?_
    refine q_reord [1, 2, 3, 4, 5, 0] (by decide : ([1, 2, 3, 4, 5, 0] : List Nat).Perm (List.range 6)) (Rs' := [[(h0, .inr (5, [.ref aO, .ref aY, .ref aN, .int hsn, .ref aT, .ref aK]))], wO, wA, wB, wL, wT]) rfl rfl ?_
    refine q_callV (k := 0) (ci := 5) (n := 1) (rest := []) (Rr := [wT]) C rfl (k_isX_recv hXox1) rfl (c_X6_correctIfPossible l hZ hI hN h0 aO aY aN hsn aT aK ([(h0, .inr (5, [.ref aO, .ref aY, .ref aN, .int hsn, .ref aT, .ref aK]))]) hXox1 aB aL aS sc wO hO wA hA bx at0 wB hB ln wL hL (k_nv tx 40 (sa + 3)) (by omega)) gX6_doPart_X6_correctIfPossible rfl rfl rfl (by decide +kernel) B.1 ⟨Nat.le_of_ble_eq_true rfl, Nat.le_of_ble_eq_true rfl⟩ rfl rfl (Nat.le_of_ble_eq_true rfl) dX6_doPart_60 ⟨(Nat.le_of_ble_eq_true rfl), (Nat.le_of_ble_eq_true rfl)⟩ [0, 1, 2, 3, 4] [5] (by decide : ([0, 1, 2, 3, 4] ++ ([5] : List Nat)).Perm (List.range 6)) rfl rfl 63 rfl (fun v0 R0 t0 ht0 hp0 => ?_)
    obtain ⟨rfl, wO_60, hwO_60, wA_60, hwA_60, wB_60, hwB_60, wL_60, hwL_60, rfl⟩ := hp0
    refine q_eqs (st' := [.int (nI ((k_fxi (bx, at0, ln, sc) (k_nv tx 40 (sa + 3))).2))]) rfl ?_
    refine q_eqR (Rs' := [[(h0, .inr (5, [.ref aO, .ref aY, .ref aN, .int hsn, .ref aT, .ref aK]))], wO_60, wA_60, wB_60, wL_60, wT]) rfl ?_
    exact q_iret C B dX6_doPart_63 rfl rfl (fun t0 ht0 => by rw [hdp]; exact ⟨rfl, _, hwO_60, _, hwA_60, _, hwB_60, _, hwL_60, by first | rfl | simp⟩)
  · refine q_eqs (st' := [.ref ((ad 2))]) (by rw [hk3]) ?_
    have hdp := k_dpt_3 (tx := tx) (S := (bx, at0, ln, sc)) (a := sa) hk3
    have hmxx := k_okp_mx hok hk3
    have hisx := k_okp_is hok hk3
    have hwl : (k_wo 3).length = 4 := rfl
    have hsh : k_sho 3 = 4 := rfl
    rw [hwl] at hmxx hisx
    refine q_astore_n C dX6_doPart_9 10 rfl [(3, .ref ((ad 2))), (0, .ref h0), (1, .int (nI sa)), (2, .int (nI e))] (by decide) rfl ?_
    refine q_aload_n C dX6_doPart_10 11 0 rfl rfl ?_
    refine q_ifnonnull C dX6_doPart_11 16 (by decide) ?_
    refine q_iload_n C dX6_doPart_16 17 2 rfl rfl ?_
    refine q_aload_n C dX6_doPart_17 18 0 rfl rfl ?_
    refine q_getoN C (q_kwd (q_kc hKs C) (i := 2) (by omega)) f314 (fun _ h => h) dX6_doPart_18 21 rfl ?_
    refine q_callVA (n := 0) (rest := [.int (nI sa)]) (Rr := [[(h0, .inr (5, [.ref aO, .ref aY, .ref aN, .int hsn, .ref aT, .ref aK]))], wO, wA, wB, wL, wT]) C (q_kwo (q_kc hKs C) (i := 2) (by omega)) (c_J0_length_8abf5 l hZ hI hKs 2 (by omega)) gX6_doPart_J0_length_8abf5 rfl rfl rfl (by decide +kernel) B.1 ⟨Nat.le_of_ble_eq_true rfl, Nat.le_of_ble_eq_true rfl⟩ rfl rfl (Nat.le_of_ble_eq_true rfl) dX6_doPart_21 ⟨(Nat.le_of_ble_eq_true rfl), (Nat.le_of_ble_eq_true rfl)⟩ [] [0, 1, 2, 3, 4, 5] (by decide : ([] ++ ([0, 1, 2, 3, 4, 5] : List Nat)).Perm (List.range 6)) rfl rfl 24 rfl (fun v0 R0 t0 ht0 hp0 => ?_)
    obtain ⟨rfl, rfl⟩ := hp0
    refine q_eqs (st' := [.int (nI ((k_wo (2 + 1)).length)), .int (nI sa)]) rfl ?_
    refine q_eqR (Rs' := [[(h0, .inr (5, [.ref aO, .ref aY, .ref aN, .int hsn, .ref aT, .ref aK]))], wO, wA, wB, wL, wT]) rfl ?_
    refine q_eqs (st' := [.int (nI 4), .int (nI sa)]) rfl ?_
    refine q_iadd (v := nI (sa + 4)) C dX6_doPart_24 25 rfl (q_nadd (by omega)) ?_
    refine q_istore C dX6_doPart_25 27 rfl [(4, .int (nI (sa + 4))), (3, .ref ((ad 2))), (0, .ref h0), (1, .int (nI sa)), (2, .int (nI e))] (by decide) rfl ?_
    refine q_aload_n C dX6_doPart_27 28 1 rfl rfl ?_
    refine q_gets (n := "SET") (v := .ref ((ad 0))) C (q_kst (q_kc hKs C) (i := 0) (by decide)) f324 (fun _ h => h) dX6_doPart_28 31 rfl ?_
    refine q_acmp_ner C dX6_doPart_31 34 42 rfl (by decide) (fun h31 => ?_) (fun h31 => False.elim (absurd ((q_kne (q_kc hKs C) (i := 2) (j := 0) (by omega) (by omega)).mp h31) (by decide)))
    refine q_aload_n C dX6_doPart_42 43 1 rfl rfl ?_
    refine q_gets (n := "FIX") (v := .ref ((ad 1))) C (q_kst (q_kc hKs C) (i := 1) (by decide)) f331 (fun _ h => h) dX6_doPart_43 46 rfl ?_
    refine q_acmp_ner C dX6_doPart_46 49 64 rfl (by decide) (fun h46 => ?_) (fun h46 => False.elim (absurd ((q_kne (q_kc hKs C) (i := 2) (j := 1) (by omega) (by omega)).mp h46) (by decide)))
    refine q_aload_n C dX6_doPart_64 65 1 rfl rfl ?_
    refine q_gets (n := "BACK") (v := .ref ((ad 2))) C (q_kst (q_kc hKs C) (i := 2) (by decide)) f340 (fun _ h => h) dX6_doPart_65 68 rfl ?_
    refine q_acmp_ner C dX6_doPart_68 71 76 rfl (by decide) (fun h68 => False.elim (h68 rfl)) (fun h68 => ?_)
    refine q_aload_n C dX6_doPart_71 72 2 rfl rfl ?_
    refine q_callV (k := 0) (ci := 5) (n := 0) (rest := []) (Rr := [wT]) C rfl (k_isX_recv hXox1) rfl (c_X6_returnIfPossible l hZ hI hN h0 aO aY aN hsn aT aK ([(h0, .inr (5, [.ref aO, .ref aY, .ref aN, .int hsn, .ref aT, .ref aK]))]) hXox1 aB aL aS sc wO hO wA hA bx at0 wB hB ln wL hL) gX6_doPart_X6_returnIfPossible rfl rfl rfl (by decide +kernel) B.1 ⟨Nat.le_of_ble_eq_true rfl, Nat.le_of_ble_eq_true rfl⟩ rfl rfl (Nat.le_of_ble_eq_true rfl) dX6_doPart_72 ⟨(Nat.le_of_ble_eq_true rfl), (Nat.le_of_ble_eq_true rfl)⟩ [0, 1, 2, 3, 4] [5] (by decide : ([0, 1, 2, 3, 4] ++ ([5] : List Nat)).Perm (List.range 6)) rfl rfl 75 rfl (fun v0 R0 t0 ht0 hp0 => ?_)
    obtain ⟨rfl, wO_72, hwO_72, wA_72, hwA_72, wB_72, hwB_72, wL_72, hwL_72, rfl⟩ := hp0
    refine q_eqs (st' := [.int (nI ((k_rti (bx, at0, ln, sc)).2))]) rfl ?_
    refine q_eqR (Rs' := [[(h0, .inr (5, [.ref aO, .ref aY, .ref aN, .int hsn, .ref aT, .ref aK]))], wO_72, wA_72, wB_72, wL_72, wT]) rfl ?_
    exact q_iret C B dX6_doPart_75 rfl rfl (fun t0 ht0 => by rw [hdp]; exact ⟨rfl, _, hwO_72, _, hwA_72, _, hwB_72, _, hwL_72, by first | rfl | simp⟩)
  · refine q_eqs (st' := [.ref ((ad 3))]) (by rw [hk4]) ?_
    have hdp := k_dpt_4 (tx := tx) (S := (bx, at0, ln, sc)) (a := sa) hk4
    have hmxx := k_okp_mx hok hk4
    have hisx := k_okp_is hok hk4
    have hwl : (k_wo 4).length = 4 := rfl
    have hsh : k_sho 4 = 5 := rfl
    rw [hwl] at hmxx hisx
    refine q_astore_n C dX6_doPart_9 10 rfl [(3, .ref ((ad 3))), (0, .ref h0), (1, .int (nI sa)), (2, .int (nI e))] (by decide) rfl ?_
    refine q_aload_n C dX6_doPart_10 11 0 rfl rfl ?_
    refine q_ifnonnull C dX6_doPart_11 16 (by decide) ?_
    refine q_iload_n C dX6_doPart_16 17 2 rfl rfl ?_
    refine q_aload_n C dX6_doPart_17 18 0 rfl rfl ?_
    refine q_getoN C (q_kwd (q_kc hKs C) (i := 3) (by omega)) f314 (fun _ h => h) dX6_doPart_18 21 rfl ?_
    refine q_callVA (n := 0) (rest := [.int (nI sa)]) (Rr := [[(h0, .inr (5, [.ref aO, .ref aY, .ref aN, .int hsn, .ref aT, .ref aK]))], wO, wA, wB, wL, wT]) C (q_kwo (q_kc hKs C) (i := 3) (by omega)) (c_J0_length_8abf5 l hZ hI hKs 3 (by omega)) gX6_doPart_J0_length_8abf5 rfl rfl rfl (by decide +kernel) B.1 ⟨Nat.le_of_ble_eq_true rfl, Nat.le_of_ble_eq_true rfl⟩ rfl rfl (Nat.le_of_ble_eq_true rfl) dX6_doPart_21 ⟨(Nat.le_of_ble_eq_true rfl), (Nat.le_of_ble_eq_true rfl)⟩ [] [0, 1, 2, 3, 4, 5] (by decide : ([] ++ ([0, 1, 2, 3, 4, 5] : List Nat)).Perm (List.range 6)) rfl rfl 24 rfl (fun v0 R0 t0 ht0 hp0 => ?_)
    obtain ⟨rfl, rfl⟩ := hp0
    refine q_eqs (st' := [.int (nI ((k_wo (3 + 1)).length)), .int (nI sa)]) rfl ?_
    refine q_eqR (Rs' := [[(h0, .inr (5, [.ref aO, .ref aY, .ref aN, .int hsn, .ref aT, .ref aK]))], wO, wA, wB, wL, wT]) rfl ?_
    refine q_eqs (st' := [.int (nI 4), .int (nI sa)]) rfl ?_
    refine q_iadd (v := nI (sa + 4)) C dX6_doPart_24 25 rfl (q_nadd (by omega)) ?_
    refine q_istore C dX6_doPart_25 27 rfl [(4, .int (nI (sa + 4))), (3, .ref ((ad 3))), (0, .ref h0), (1, .int (nI sa)), (2, .int (nI e))] (by decide) rfl ?_
    have hrs : k_rs tx 4 (sa + 4) = k_dw tx 1 99 (sa + 4) := rfl
    have hdwp := k_dw_pos (tx := tx) (lo := 1) (hi := 99) (i := sa + 4) (by omega)
    have hnv := k_nv_le (hi := 99) (by decide) hdwp
    refine q_aload_n C dX6_doPart_27 28 1 rfl rfl ?_
    refine q_gets (n := "SET") (v := .ref ((ad 0))) C (q_kst (q_kc hKs C) (i := 0) (by decide)) f324 (fun _ h => h) dX6_doPart_28 31 rfl ?_
    refine q_acmp_ner C dX6_doPart_31 34 42 rfl (by decide) (fun h31 => ?_) (fun h31 => False.elim (absurd ((q_kne (q_kc hKs C) (i := 3) (j := 0) (by omega) (by omega)).mp h31) (by decide)))
    refine q_aload_n C dX6_doPart_42 43 1 rfl rfl ?_
    refine q_gets (n := "FIX") (v := .ref ((ad 1))) C (q_kst (q_kc hKs C) (i := 1) (by decide)) f331 (fun _ h => h) dX6_doPart_43 46 rfl ?_
    refine q_acmp_ner C dX6_doPart_46 49 64 rfl (by decide) (fun h46 => ?_) (fun h46 => False.elim (absurd ((q_kne (q_kc hKs C) (i := 3) (j := 1) (by omega) (by omega)).mp h46) (by decide)))
    refine q_aload_n C dX6_doPart_64 65 1 rfl rfl ?_
    refine q_gets (n := "BACK") (v := .ref ((ad 2))) C (q_kst (q_kc hKs C) (i := 2) (by decide)) f340 (fun _ h => h) dX6_doPart_65 68 rfl ?_
    refine q_acmp_ner C dX6_doPart_68 71 76 rfl (by decide) (fun h68 => ?_) (fun h68 => False.elim (absurd ((q_kne (q_kc hKs C) (i := 3) (j := 2) (by omega) (by omega)).mp h68) (by decide)))
    refine q_aload_n C dX6_doPart_76 77 1 rfl rfl ?_
    refine q_gets (n := "IDLE") (v := .ref ((ad 3))) C (q_kst (q_kc hKs C) (i := 3) (by decide)) f346 (fun _ h => h) dX6_doPart_77 80 rfl ?_
    refine q_acmp_ner C dX6_doPart_80 83 104 rfl (by decide) (fun h80 => False.elim (h80 rfl)) (fun h80 => ?_)
    refine q_aload_n C dX6_doPart_83 84 2 rfl rfl ?_
    refine q_get (k := 0) (j := 0) (f := 0) C hinX6 f12 (fun _ h => h) (by decide) rfl dX6_doPart_84 87 rfl rfl rfl rfl ?_
    refine q_aload_n C dX6_doPart_87 88 2 rfl rfl ?_
    refine q_get (k := 0) (j := 0) (f := 4) C hinX6 f33 (fun _ h => h) (by decide) rfl dX6_doPart_88 91 rfl rfl rfl rfl ?_
    refine q_iload C dX6_doPart_91 93 0 rfl rfl ?_
    refine q_iload_n C dX6_doPart_93 94 4 rfl rfl ?_
    refine q_callV (k := 5) (ci := 4) (n := 2) (rest := [.ref aO]) (Rr := [[(h0, .inr (5, [.ref aO, .ref aY, .ref aN, .int hsn, .ref aT, .ref aK]))], wO, wA, wB, wL]) C rfl (k_isT_recv hT) rfl (c_X5_numberIn l hZ hI aT tx wT hT (sa + 4) e 1 99 (by omega) (by omega) (by omega) (by omega)) gX6_doPart_X5_numberIn rfl rfl rfl (by decide +kernel) B.1 ⟨Nat.le_of_ble_eq_true rfl, Nat.le_of_ble_eq_true rfl⟩ rfl rfl (Nat.le_of_ble_eq_true rfl) dX6_doPart_94 ⟨(Nat.le_of_ble_eq_true rfl), (Nat.le_of_ble_eq_true rfl)⟩ [5] [0, 1, 2, 3, 4] (by decide : ([5] ++ ([0, 1, 2, 3, 4] : List Nat)).Perm (List.range 6)) rfl rfl 97 rfl (fun v0 R0 t0 ht0 hp0 => ?_)
    obtain ⟨rfl, rfl⟩ := hp0
    refine q_eqs (st' := [.int (nI (k_nv tx 99 (sa + 4))), .ref aO]) rfl ?_
    refine q_reord [1, 2, 3, 4, 5, 0] (by decide : ([1, 2, 3, 4, 5, 0] : List Nat).Perm (List.range 6)) (Rs' := [[(h0, .inr (5, [.ref aO, .ref aY, .ref aN, .int hsn, .ref aT, .ref aK]))], wO, wA, wB, wL, wT]) rfl rfl ?_
    refine q_callV (k := 1) (ci := 3) (n := 1) (rest := []) (Rr := [[(h0, .inr (5, [.ref aO, .ref aY, .ref aN, .int hsn, .ref aT, .ref aK]))], wL, wT]) C rfl (k_isO_recv hO) rfl (c_X4_rest l hZ hI aO aB aL aS sc wO hO wA hA bx at0 wB hB (k_nv tx 99 (sa + 4)) (by omega)) gX6_doPart_X4_rest rfl rfl rfl (by decide +kernel) B.1 ⟨Nat.le_of_ble_eq_true rfl, Nat.le_of_ble_eq_true rfl⟩ rfl rfl (Nat.le_of_ble_eq_true rfl) dX6_doPart_97 ⟨(Nat.le_of_ble_eq_true rfl), (Nat.le_of_ble_eq_true rfl)⟩ [1, 2, 3] [0, 4, 5] (by decide : ([1, 2, 3] ++ ([0, 4, 5] : List Nat)).Perm (List.range 6)) rfl rfl 100 rfl (fun v0 R0 t0 ht0 hp0 => ?_)
    obtain ⟨rfl, wO_97, hwO_97, wA_97, hwA_97, wB_97, hwB_97, rfl⟩ := hp0
    refine q_eqs (st' := [.int (nI (k_cnt (k_bm bx at0 (-1)) (k_nv tx 99 (sa + 4))))]) rfl ?_
    refine q_reord [3, 0, 1, 2, 4, 5] (by decide : ([3, 0, 1, 2, 4, 5] : List Nat).Perm (List.range 6)) (Rs' := [[(h0, .inr (5, [.ref aO, .ref aY, .ref aN, .int hsn, .ref aT, .ref aK]))], wO_97, wA_97, wB_97, wL, wT]) rfl rfl ?_
    refine q_pop C dX6_doPart_100 101 rfl rfl ?_
    refine q_goto C dX6_doPart_101 131 (by decide) ?_
    refine q_iconst (v := nI 0) C dX6_doPart_131 132 rfl (by decide) ?_
    exact q_iret C B dX6_doPart_132 rfl rfl (fun t0 ht0 => by rw [hdp]; exact ⟨rfl, _, hwO_97, _, hwA_97, _, hwB_97, _, hL, by first | rfl | simp⟩)
  · refine q_eqs (st' := [.ref ((ad 4))]) (by rw [hk5]) ?_
    have hdp := k_dpt_5 (tx := tx) (S := (bx, at0, ln, sc)) (a := sa) hk5
    have hmxx := k_okp_mx hok hk5
    have hisx := k_okp_is hok hk5
    have hwl : (k_wo 5).length = 5 := rfl
    have hsh : k_sho 5 = 7 := rfl
    rw [hwl] at hmxx hisx
    refine q_astore_n C dX6_doPart_9 10 rfl [(3, .ref ((ad 4))), (0, .ref h0), (1, .int (nI sa)), (2, .int (nI e))] (by decide) rfl ?_
    refine q_aload_n C dX6_doPart_10 11 0 rfl rfl ?_
    refine q_ifnonnull C dX6_doPart_11 16 (by decide) ?_
    refine q_iload_n C dX6_doPart_16 17 2 rfl rfl ?_
    refine q_aload_n C dX6_doPart_17 18 0 rfl rfl ?_
    refine q_getoN C (q_kwd (q_kc hKs C) (i := 4) (by omega)) f314 (fun _ h => h) dX6_doPart_18 21 rfl ?_
    refine q_callVA (n := 0) (rest := [.int (nI sa)]) (Rr := [[(h0, .inr (5, [.ref aO, .ref aY, .ref aN, .int hsn, .ref aT, .ref aK]))], wO, wA, wB, wL, wT]) C (q_kwo (q_kc hKs C) (i := 4) (by omega)) (c_J0_length_8abf5 l hZ hI hKs 4 (by omega)) gX6_doPart_J0_length_8abf5 rfl rfl rfl (by decide +kernel) B.1 ⟨Nat.le_of_ble_eq_true rfl, Nat.le_of_ble_eq_true rfl⟩ rfl rfl (Nat.le_of_ble_eq_true rfl) dX6_doPart_21 ⟨(Nat.le_of_ble_eq_true rfl), (Nat.le_of_ble_eq_true rfl)⟩ [] [0, 1, 2, 3, 4, 5] (by decide : ([] ++ ([0, 1, 2, 3, 4, 5] : List Nat)).Perm (List.range 6)) rfl rfl 24 rfl (fun v0 R0 t0 ht0 hp0 => ?_)
    obtain ⟨rfl, rfl⟩ := hp0
    refine q_eqs (st' := [.int (nI ((k_wo (4 + 1)).length)), .int (nI sa)]) rfl ?_
    refine q_eqR (Rs' := [[(h0, .inr (5, [.ref aO, .ref aY, .ref aN, .int hsn, .ref aT, .ref aK]))], wO, wA, wB, wL, wT]) rfl ?_
    refine q_eqs (st' := [.int (nI 5), .int (nI sa)]) rfl ?_
    refine q_iadd (v := nI (sa + 5)) C dX6_doPart_24 25 rfl (q_nadd (by omega)) ?_
    refine q_istore C dX6_doPart_25 27 rfl [(4, .int (nI (sa + 5))), (3, .ref ((ad 4))), (0, .ref h0), (1, .int (nI sa)), (2, .int (nI e))] (by decide) rfl ?_
    have hsw5 := k_swap_ok hok hk5
    have hrs : k_rs tx 5 (sa + 5) = k_lw tx 2 (sa + 5) := rfl
    have hg5 := k_sg_in (tx := tx) (i := sa + 5) (by omega)
    have hg6 := k_sg_in (tx := tx) (i := sa + 6) (by omega)
    have hl5 := k_lw_all (j := 0) (show 0 < k_lw tx 2 (sa + 5) by omega)
    have hl6 := k_lw_all (j := 1) (show 1 < k_lw tx 2 (sa + 5) by omega)
    rw [show sa + 5 + 0 = sa + 5 by omega] at hl5
    rw [show sa + 5 + 1 = sa + 6 by omega] at hl6
    refine q_aload_n C dX6_doPart_27 28 1 rfl rfl ?_
    refine q_gets (n := "SET") (v := .ref ((ad 0))) C (q_kst (q_kc hKs C) (i := 0) (by decide)) f324 (fun _ h => h) dX6_doPart_28 31 rfl ?_
    refine q_acmp_ner C dX6_doPart_31 34 42 rfl (by decide) (fun h31 => ?_) (fun h31 => False.elim (absurd ((q_kne (q_kc hKs C) (i := 4) (j := 0) (by omega) (by omega)).mp h31) (by decide)))
    refine q_aload_n C dX6_doPart_42 43 1 rfl rfl ?_
    refine q_gets (n := "FIX") (v := .ref ((ad 1))) C (q_kst (q_kc hKs C) (i := 1) (by decide)) f331 (fun _ h => h) dX6_doPart_43 46 rfl ?_
    refine q_acmp_ner C dX6_doPart_46 49 64 rfl (by decide) (fun h46 => ?_) (fun h46 => False.elim (absurd ((q_kne (q_kc hKs C) (i := 4) (j := 1) (by omega) (by omega)).mp h46) (by decide)))
    refine q_aload_n C dX6_doPart_64 65 1 rfl rfl ?_
    refine q_gets (n := "BACK") (v := .ref ((ad 2))) C (q_kst (q_kc hKs C) (i := 2) (by decide)) f340 (fun _ h => h) dX6_doPart_65 68 rfl ?_
    refine q_acmp_ner C dX6_doPart_68 71 76 rfl (by decide) (fun h68 => ?_) (fun h68 => False.elim (absurd ((q_kne (q_kc hKs C) (i := 4) (j := 2) (by omega) (by omega)).mp h68) (by decide)))
    refine q_aload_n C dX6_doPart_76 77 1 rfl rfl ?_
    refine q_gets (n := "IDLE") (v := .ref ((ad 3))) C (q_kst (q_kc hKs C) (i := 3) (by decide)) f346 (fun _ h => h) dX6_doPart_77 80 rfl ?_
    refine q_acmp_ner C dX6_doPart_80 83 104 rfl (by decide) (fun h80 => ?_) (fun h80 => False.elim (absurd ((q_kne (q_kc hKs C) (i := 4) (j := 3) (by omega) (by omega)).mp h80) (by decide)))
    refine q_aload_n C dX6_doPart_104 105 2 rfl rfl ?_
    refine q_get (k := 0) (j := 0) (f := 0) C hinX6 f12 (fun _ h => h) (by decide) rfl dX6_doPart_105 108 rfl rfl rfl rfl ?_
    refine q_aload_n C dX6_doPart_108 109 2 rfl rfl ?_
    refine q_get (k := 0) (j := 0) (f := 4) C hinX6 f33 (fun _ h => h) (by decide) rfl dX6_doPart_109 112 rfl rfl rfl rfl ?_
    refine q_iload C dX6_doPart_112 114 0 rfl rfl ?_
    refine q_callV (k := 5) (ci := 4) (n := 1) (rest := [.ref aO]) (Rr := [[(h0, .inr (5, [.ref aO, .ref aY, .ref aN, .int hsn, .ref aT, .ref aK]))], wO, wA, wB, wL]) C rfl (k_isT_recv hT) rfl (c_X5_letterAt l hZ hI aT tx wT hT (sa + 5) (by omega)) gX6_doPart_X5_letterAt rfl rfl rfl (by decide +kernel) B.1 ⟨Nat.le_of_ble_eq_true rfl, Nat.le_of_ble_eq_true rfl⟩ rfl rfl (Nat.le_of_ble_eq_true rfl) dX6_doPart_114 ⟨(Nat.le_of_ble_eq_true rfl), (Nat.le_of_ble_eq_true rfl)⟩ [5] [0, 1, 2, 3, 4] (by decide : ([5] ++ ([0, 1, 2, 3, 4] : List Nat)).Perm (List.range 6)) rfl rfl 117 rfl (fun v0 R0 t0 ht0 hp0 => ?_)
    obtain ⟨rfl, rfl⟩ := hp0
    refine q_eqs (st' := [.int (nI (k_at tx (sa + 5)) - nI 97), .ref aO]) rfl ?_
    refine q_reord [1, 2, 3, 4, 5, 0] (by decide : ([1, 2, 3, 4, 5, 0] : List Nat).Perm (List.range 6)) (Rs' := [[(h0, .inr (5, [.ref aO, .ref aY, .ref aN, .int hsn, .ref aT, .ref aK]))], wO, wA, wB, wL, wT]) rfl rfl ?_
    refine q_eqs (st' := [.int (nI (k_sg tx (sa + 5) - 97)), .ref aO]) (by rw [hg5]; rw [q_nsub (by omega) rfl]) ?_
    refine q_aload_n C dX6_doPart_117 118 2 rfl rfl ?_
    refine q_get (k := 0) (j := 0) (f := 4) C hinX6 f33 (fun _ h => h) (by decide) rfl dX6_doPart_118 121 rfl rfl rfl rfl ?_
    refine q_iload C dX6_doPart_121 123 0 rfl rfl ?_
    refine q_iconst (v := nI 1) C dX6_doPart_123 124 rfl (by decide) ?_
    refine q_iadd (v := nI (sa + 6)) C dX6_doPart_124 125 rfl (q_nadd (by omega)) ?_
    refine q_callV (k := 5) (ci := 4) (n := 1) (rest := [.int (nI (k_sg tx (sa + 5) - 97)), .ref aO]) (Rr := [[(h0, .inr (5, [.ref aO, .ref aY, .ref aN, .int hsn, .ref aT, .ref aK]))], wO, wA, wB, wL]) C rfl (k_isT_recv hT) rfl (c_X5_letterAt l hZ hI aT tx wT hT (sa + 6) (by omega)) gX6_doPart_X5_letterAt rfl rfl rfl (by decide +kernel) B.1 ⟨Nat.le_of_ble_eq_true rfl, Nat.le_of_ble_eq_true rfl⟩ rfl rfl (Nat.le_of_ble_eq_true rfl) dX6_doPart_125 ⟨(Nat.le_of_ble_eq_true rfl), (Nat.le_of_ble_eq_true rfl)⟩ [5] [0, 1, 2, 3, 4] (by decide : ([5] ++ ([0, 1, 2, 3, 4] : List Nat)).Perm (List.range 6)) rfl rfl 128 rfl (fun v0 R0 t0 ht0 hp0 => ?_)
    obtain ⟨rfl, rfl⟩ := hp0
    refine q_eqs (st' := [.int (nI (k_at tx (sa + 6)) - nI 97), .int (nI (k_sg tx (sa + 5) - 97)), .ref aO]) rfl ?_
    refine q_reord [1, 2, 3, 4, 5, 0] (by decide : ([1, 2, 3, 4, 5, 0] : List Nat).Perm (List.range 6)) (Rs' := [[(h0, .inr (5, [.ref aO, .ref aY, .ref aN, .int hsn, .ref aT, .ref aK]))], wO, wA, wB, wL, wT]) rfl rfl ?_
    refine q_eqs (st' := [.int (nI (k_sg tx (sa + 6) - 97)), .int (nI (k_sg tx (sa + 5) - 97)), .ref aO]) (by rw [hg6]; rw [q_nsub (by omega) rfl]) ?_
    refine q_callV (k := 1) (ci := 3) (n := 2) (rest := []) (Rr := [[(h0, .inr (5, [.ref aO, .ref aY, .ref aN, .int hsn, .ref aT, .ref aK]))], wL, wT]) C rfl (k_isO_recv hO) rfl (c_X4_exchange l hZ hI aO aB aL aS sc wO hO wA hA bx at0 wB hB (k_sg tx (sa + 5) - 97) (k_sg tx (sa + 6) - 97) (by omega) (by omega)) gX6_doPart_X4_exchange rfl rfl rfl (by decide +kernel) B.1 ⟨Nat.le_of_ble_eq_true rfl, Nat.le_of_ble_eq_true rfl⟩ rfl rfl (Nat.le_of_ble_eq_true rfl) dX6_doPart_128 ⟨(Nat.le_of_ble_eq_true rfl), (Nat.le_of_ble_eq_true rfl)⟩ [1, 2, 3] [0, 4, 5] (by decide : ([1, 2, 3] ++ ([0, 4, 5] : List Nat)).Perm (List.range 6)) rfl rfl 131 rfl (fun v0 R0 t0 ht0 hp0 => ?_)
    obtain ⟨rfl, wO_128, hwO_128, wA_128, hwA_128, wB_128, hwB_128, rfl⟩ := hp0
    refine q_eqs (st' := []) rfl ?_
    refine q_reord [3, 0, 1, 2, 4, 5] (by decide : ([3, 0, 1, 2, 4, 5] : List Nat).Perm (List.range 6)) (Rs' := [[(h0, .inr (5, [.ref aO, .ref aY, .ref aN, .int hsn, .ref aT, .ref aK]))], wO_128, wA_128, wB_128, wL, wT]) rfl rfl ?_
    refine q_iconst (v := nI 0) C dX6_doPart_131 132 rfl (by decide) ?_
    exact q_iret C B dX6_doPart_132 rfl rfl (fun t0 ht0 => by rw [hdp]; exact ⟨rfl, _, hwO_128, _, hwA_128, _, hwB_128, _, hL, by first | rfl | simp⟩)

set_option maxHeartbeats 400000 in
set_option maxRecDepth 100000 in
theorem c_X6_firstError (l : Launch) {D : va_G} {tys : List (ClassId × FieldType)} {Z : (Nat → Prop) → State → Heap → Prop} (hZ : q_St Z) {cI : ClassId} (hI : tys[0]? = some (cI, .int)) (hN : q_Ns Z) {ad aw av : Nat → Nat} {tK : Nat} (hKs : q_Ks Z ad aw av tK) (h0 : Nat) (aO : Nat) (aY : Nat) (aN : Nat) (hsn : Int32) (aT : Nat) (aK : Nat) (wX : va_W) (hX : k_isX cI h0 aO aY aN hsn aT aK wX) (tx : List Nat) (wT : va_W) (hT : k_isT cI aT tx wT) : q_Ct l D tys Z yX6_firstError wsX6_firstError ({ frames := 8, cells := 0, slots := 0, locals := 252 } : Room) 0 0 [.ref h0] [wX, wT] (fun v0 R0 _ => v0 = some (.int (nI ((k_fr tx 61 0).1))) ∧ R0 = [wX, wT]) := by
  have hcI := hI
  refine q_ct (cc := cX6_firstError) (maxL := 1) (ret := (some .int)) (own := RX6) (by decide) rfl hZ (Nat.le_of_ble_eq_true rfl) rfl ?_
  intro p9 e9 R s9 m9 args below meth c9 A Q C B
  have hts := C.2.2.2.2.1
  have hinX6 : ∀ w ∈ u_ws RX6 TX6 6, w ∈ wsX6_firstError := by decide +kernel
  have f33 := hts (.fieldLink RX6 33 "SortCases" "text" "LSortCases$Text;") (by decide +kernel)
  refine q_eqL (L' := [(0, .ref h0)]) rfl ?_
  refine q_aload_n C dX6_firstError_0 1 0 rfl rfl ?_
  obtain rfl := hX
  have hXox1 : k_isX cI h0 aO aY aN hsn aT aK [(h0, .inr (5, [.ref aO, .ref aY, .ref aN, .int hsn, .ref aT, .ref aK]))] := rfl
  refine q_get (k := 0) (j := 0) (f := 4) C hinX6 f33 (fun _ h => h) (by decide) rfl dX6_firstError_1 4 rfl rfl rfl rfl ?_
  refine q_callV (k := 1) (ci := 4) (n := 0) (rest := []) (Rr := [[(h0, .inr (5, [.ref aO, .ref aY, .ref aN, .int hsn, .ref aT, .ref aK]))]]) C rfl (k_isT_recv hT) rfl (c_X5_firstMisfit l hZ hI hN hKs aT tx wT hT) gX6_firstError_X5_firstMisfit rfl rfl rfl (by decide +kernel) B.1 ⟨Nat.le_of_ble_eq_true rfl, Nat.le_of_ble_eq_true rfl⟩ rfl rfl (Nat.le_of_ble_eq_true rfl) dX6_firstError_4 ⟨(Nat.le_of_ble_eq_true rfl), (Nat.le_of_ble_eq_true rfl)⟩ [1] [0] (by decide : ([1] ++ ([0] : List Nat)).Perm (List.range 2)) rfl rfl 7 rfl (fun v0 R0 t0 ht0 hp0 => ?_)
  obtain ⟨rfl, rfl⟩ := hp0
  refine q_eqs (st' := [.int (nI ((k_fr tx 61 0).1))]) rfl ?_
  refine q_reord [1, 0] (by decide : ([1, 0] : List Nat).Perm (List.range 2)) (Rs' := [[(h0, .inr (5, [.ref aO, .ref aY, .ref aN, .int hsn, .ref aT, .ref aK]))], wT]) rfl rfl ?_
  exact q_iret C B dX6_firstError_7 rfl rfl (fun t0 ht0 => ⟨rfl, rfl⟩)

set_option maxHeartbeats 400000 in
set_option maxRecDepth 100000 in
theorem c_X6_work_s (l : Launch) {D : va_G} {tys : List (ClassId × FieldType)} {Z : (Nat → Prop) → State → Heap → Prop} (hZ : q_St Z) {cI : ClassId} (hI : tys[0]? = some (cI, .int)) (hN : q_Ns Z) {cG : ClassId} (hG : tys[1]? = some (cG, .object "SortCases$State")) {ad aw av : Nat → Nat} {tK : Nat} (hKs : q_Ks Z ad aw av tK) (h0 : Nat) (aO : Nat) (aY : Nat) (aN : Nat) (hsn : Int32) (aT : Nat) (aK : Nat) (wX : va_W) (hX : k_isX cI h0 aO aY aN hsn aT aK wX) (aB : Nat) (aL : Nat) (aS : Nat) (sc : Nat → Int32) (wO : va_W) (hO : k_isO cI aO aB aL aS sc wO) (wA : va_W) (hA : k_isA cI aS sc wA) (bx : k_Bx) (at0 : Nat) (wB : va_W) (hB : k_isB cI aB bx at0 wB) (ln : List (Nat × Nat)) (wL : va_W) (hL : k_isL cI aL ln wL) (tx : List Nat) (wT : va_W) (hT : k_isT cI aT tx wT) (sv : List k_S) (wH : va_W) (hH : k_isH cG cI aY sv wH) (hsw : k_Sw (bx, at0, ln, sc)) (hwh : (k_fr tx 61 0).2 = true) : q_Ct l D tys Z yX6_work wsX6_work ({ frames := 8, cells := 0, slots := 0, locals := 252 } : Room) 0 0 [.ref h0] [wX, wO, wA, wB, wL, wT, wH] (fun v0 R0 _ => v0 = some (.int (nI (k_dn tx (k_rp tx) (bx, at0, ln, sc)))) ∧ ∃ wO', k_isO cI aO aB aL aS ((k_wks tx (bx, at0, ln, sc)).2.2.2) wO' ∧ ∃ wA', k_isA cI aS ((k_wks tx (bx, at0, ln, sc)).2.2.2) wA' ∧ ∃ wB', k_isB cI aB ((k_wks tx (bx, at0, ln, sc)).1) ((k_wks tx (bx, at0, ln, sc)).2.1) wB' ∧ ∃ wL', k_isL cI aL ((k_wks tx (bx, at0, ln, sc)).2.2.1) wL' ∧ ∃ wT', k_isT cI aT (([] : List Nat)) wT' ∧ ∃ wH', k_isH cG cI aY ((k_sav sv (bx, at0, ln, sc))) wH' ∧ R0 = [wX, wO', wA', wB', wL', wT', wH']) := by
  have hcI := hI
  have hcG := hG
  refine q_ct (cc := cX6_work) (maxL := 5) (ret := (some .int)) (own := RX6) (by decide) rfl hZ (Nat.le_of_ble_eq_true rfl) rfl ?_
  intro p9 e9 R s9 m9 args below meth c9 A Q C B
  have hts := C.2.2.2.2.1
  have hinX6 : ∀ w ∈ u_ws RX6 TX6 6, w ∈ wsX6_work := by decide +kernel
  have f33 := hts (.fieldLink RX6 33 "SortCases" "text" "LSortCases$Text;") (by decide +kernel)
  have f19 := hts (.fieldLink RX6 19 "SortCases" "history" "LSortCases$History;") (by decide +kernel)
  have f12 := hts (.fieldLink RX6 12 "SortCases" "state" "LSortCases$State;") (by decide +kernel)
  have hinX5 : ∀ w ∈ u_ws RX5 TX5 2, w ∈ wsX6_work := by decide +kernel
  have f140 := q_nsb hN C (by decide +kernel : Cond.fieldLinkNest "SortCases" 140 "SortCases$Text" "length" "I" "SortCases" ∈ q_nest) rfl
  have hinX4 : ∀ w ∈ u_ws RX4 TX4 11, w ∈ wsX6_work := by decide +kernel
  have f167 := q_nsb hN C (by decide +kernel : Cond.fieldLinkNest "SortCases" 167 "SortCases$State" "stopPart" "I" "SortCases" ∈ q_nest) rfl
  have f170 := q_nsb hN C (by decide +kernel : Cond.fieldLinkNest "SortCases" 170 "SortCases$State" "stopReason" "I" "SortCases" ∈ q_nest) rfl
  refine q_eqL (L' := [(0, .ref h0)]) rfl ?_
  have htl := hT.1.1
  refine q_aload_n C dX6_work_0 1 0 rfl rfl ?_
  obtain rfl := hX
  have hXox1 : k_isX cI h0 aO aY aN hsn aT aK [(h0, .inr (5, [.ref aO, .ref aY, .ref aN, .int hsn, .ref aT, .ref aK]))] := rfl
  refine q_get (k := 0) (j := 0) (f := 4) C hinX6 f33 (fun _ h => h) (by decide) rfl dX6_work_1 4 rfl rfl rfl rfl ?_
  refine q_callV (k := 5) (ci := 4) (n := 0) (rest := []) (Rr := [[(h0, .inr (5, [.ref aO, .ref aY, .ref aN, .int hsn, .ref aT, .ref aK]))], wO, wA, wB, wL, wH]) C rfl (k_isT_recv hT) rfl (c_X5_isWhole l hZ hI hN hKs aT tx wT hT) gX6_work_X5_isWhole rfl rfl rfl (by decide +kernel) B.1 ⟨Nat.le_of_ble_eq_true rfl, Nat.le_of_ble_eq_true rfl⟩ rfl rfl (Nat.le_of_ble_eq_true rfl) dX6_work_4 ⟨(Nat.le_of_ble_eq_true rfl), (Nat.le_of_ble_eq_true rfl)⟩ [5] [0, 1, 2, 3, 4, 6] (by decide : ([5] ++ ([0, 1, 2, 3, 4, 6] : List Nat)).Perm (List.range 7)) rfl rfl 7 rfl (fun v0 R0 t0 ht0 hp0 => ?_)
  obtain ⟨rfl, rfl⟩ := hp0
  refine q_eqs (st' := [.int (q_b ((k_fr tx 61 0).2))]) rfl ?_
  refine q_reord [1, 2, 3, 4, 5, 0, 6] (by decide : ([1, 2, 3, 4, 5, 0, 6] : List Nat).Perm (List.range 7)) (Rs' := [[(h0, .inr (5, [.ref aO, .ref aY, .ref aN, .int hsn, .ref aT, .ref aK]))], wO, wA, wB, wL, wT, wH]) rfl rfl ?_
  refine q_if_ne (P := (k_fr tx 61 0).2 = false) C dX6_work_7 10 20 rfl (by decide) q_b0 (fun h7 => ?_) (fun h7 => False.elim (by rw [h7] at hwh; cases hwh))
  refine q_aload_n C dX6_work_20 21 0 rfl rfl ?_
  refine q_get (k := 0) (j := 0) (f := 1) C hinX6 f19 (fun _ h => h) (by decide) rfl dX6_work_21 24 rfl rfl rfl rfl ?_
  refine q_aload_n C dX6_work_24 25 0 rfl rfl ?_
  refine q_get (k := 0) (j := 0) (f := 0) C hinX6 f12 (fun _ h => h) (by decide) rfl dX6_work_25 28 rfl rfl rfl rfl ?_
  refine q_callV (k := 6) (ci := 1) (n := 1) (rest := []) (Rr := [[(h0, .inr (5, [.ref aO, .ref aY, .ref aN, .int hsn, .ref aT, .ref aK]))], wT]) C rfl (k_isH_recv hH) rfl (c_X1_save l hZ hI hG aY sv wH hH aO aB aL aS sc wO hO wA hA bx at0 wB hB ln wL hL) gX6_work_X1_save rfl rfl rfl (by decide +kernel) B.1 ⟨Nat.le_of_ble_eq_true rfl, Nat.le_of_ble_eq_true rfl⟩ rfl rfl (Nat.le_of_ble_eq_true rfl) dX6_work_28 ⟨(Nat.le_of_ble_eq_true rfl), (Nat.le_of_ble_eq_true rfl)⟩ [6, 1, 2, 3, 4] [0, 5] (by decide : ([6, 1, 2, 3, 4] ++ ([0, 5] : List Nat)).Perm (List.range 7)) rfl rfl 31 rfl (fun v0 R0 t0 ht0 hp0 => ?_)
  obtain ⟨rfl, wH_28, hwH_28, rfl⟩ := hp0
  refine q_eqs (st' := []) rfl ?_
  refine q_reord [5, 1, 2, 3, 4, 6, 0] (by decide : ([5, 1, 2, 3, 4, 6, 0] : List Nat).Perm (List.range 7)) (Rs' := [[(h0, .inr (5, [.ref aO, .ref aY, .ref aN, .int hsn, .ref aT, .ref aK]))], wO, wA, wB, wL, wT, wH_28]) rfl rfl ?_
  refine q_iconst (v := nI 0) C dX6_work_31 32 rfl (by decide) ?_
  refine q_istore_n C dX6_work_32 33 rfl [(1, .int (nI 0)), (0, .ref h0)] (by decide) rfl ?_
  refine q_iconst (v := nI 0) C dX6_work_33 34 rfl (by decide) ?_
  refine q_istore_n C dX6_work_34 35 rfl [(2, .int (nI 0)), (1, .int (nI 0)), (0, .ref h0)] (by decide) rfl ?_
  refine q_iconst (v := nI 0) C dX6_work_35 36 rfl (by decide) ?_
  refine q_istore_n C dX6_work_36 37 rfl [(3, .int (nI 0)), (2, .int (nI 0)), (1, .int (nI 0)), (0, .ref h0)] (by decide) rfl ?_
  refine q_iconst (v := nI 0) C dX6_work_37 38 rfl (by decide) ?_
  refine q_istore C dX6_work_38 40 rfl [(4, .int (nI 0)), (3, .int (nI 0)), (2, .int (nI 0)), (1, .int (nI 0)), (0, .ref h0)] (by decide) rfl ?_
  have lp : ∀ (kk : Nat) (st : Nat) (m : Nat) (x : Nat) (j : Nat) (ps : List Nat) (wo : va_W) (wa : va_W) (wb : va_W) (wl : va_W), tx.length + 1 - x < kk → ∀ (hx : x ≤ tx.length + 1), ∀ (hj : j ≤ (k_rp tx).length), ∀ (hwk : k_Wk tx st m x j ps), ∀ (hu : ∀ u, u < j → k_dy tx (k_rp tx) (bx, at0, ln, sc) u = 0), ∀ (hwo : k_isO cI aO aB aL aS (k_di tx (k_rp tx) (bx, at0, ln, sc) j).2.2.2 wo), ∀ (hwa : k_isA cI aS (k_di tx (k_rp tx) (bx, at0, ln, sc) j).2.2.2 wa), ∀ (hwb : k_isB cI aB (k_di tx (k_rp tx) (bx, at0, ln, sc) j).1 (k_di tx (k_rp tx) (bx, at0, ln, sc) j).2.1 wb), ∀ (hwl : k_isL cI aL (k_di tx (k_rp tx) (bx, at0, ln, sc) j).2.2.1 wl), q_V p9 l e9 R s9 m9 args below meth c9 D A 5 Q 0 0 40 [(4, .int (nI x)), (3, .int (nI 0)), (2, .int (nI st)), (1, .int (nI j)), (0, .ref h0)] [] [[(h0, .inr (5, [.ref aO, .ref aY, .ref aN, .int hsn, .ref aT, .ref aK]))], wo, wa, wb, wl, wT, wH_28] := by
    intro kk
    induction kk with
    | zero => intro st m x j ps wo wa wb wl hkk; exact absurd hkk (Nat.not_lt_zero _)
    | succ kk ih_lp =>
      intro st m x j ps wo wa wb wl hkk hx hj hwk hu hwo hwa hwb hwl
      refine q_iload C dX6_work_40 42 0 rfl rfl ?_
      refine q_aload_n C dX6_work_42 43 4 rfl rfl ?_
      refine q_get (k := 0) (j := 0) (f := 4) C hinX6 f33 (fun _ h => h) (by decide) rfl dX6_work_43 46 rfl rfl rfl rfl ?_
      obtain ⟨htkx2, hcx2, ftx2, htrx2, rfl⟩ := hT
      have htlx2 := htkx2.1
      have hTox2 : k_isT cI aT tx [(aT, .inr (4, [.ref hcx2, .int (nI tx.length)])), (hcx2, .inl (cI, 60, .inl ftx2))] := ⟨htkx2, hcx2, ftx2, htrx2, rfl⟩
      refine q_getN (k := 5) (j := 0) (f := 1) C hinX5 f140 (fun _ h => h) (by decide) rfl dX6_work_46 49 rfl rfl rfl rfl ?_
      refine q_icmp_gt C dX6_work_49 52 99 rfl (by decide) (nI_ltI (by omega) (by omega)) (fun h49 => ?_) (fun h49 => ?_)
      · refine q_aload_n C dX6_work_99 100 4 rfl rfl ?_
        refine q_get (k := 0) (j := 0) (f := 0) C hinX6 f12 (fun _ h => h) (by decide) rfl dX6_work_100 103 rfl rfl rfl rfl ?_
        refine q_iload_n C dX6_work_103 104 1 rfl rfl ?_
        refine q_if_ne C dX6_work_104 107 111 rfl (by decide) (q_eq0 (by omega)) (fun h104 => False.elim (by first | omega | simp_all)) (fun h104 => ?_)
        refine q_iconst (v := -1) C dX6_work_107 108 rfl (by decide) ?_
        refine q_goto C dX6_work_108 112 (by decide) ?_
        obtain rfl := hwo
        have hOox3 : k_isO cI aO aB aL aS ((k_di tx (k_rp tx) (bx, at0, ln, sc) j).2.2.2) [(aO, .inr (3, [.ref aB, .ref aL, .ref aS, .int (((k_di tx (k_rp tx) (bx, at0, ln, sc) j).2.2.2) 3), .int (((k_di tx (k_rp tx) (bx, at0, ln, sc) j).2.2.2) 5), .int (((k_di tx (k_rp tx) (bx, at0, ln, sc) j).2.2.2) 6), .int (((k_di tx (k_rp tx) (bx, at0, ln, sc) j).2.2.2) 7), .int (((k_di tx (k_rp tx) (bx, at0, ln, sc) j).2.2.2) 8), .int (((k_di tx (k_rp tx) (bx, at0, ln, sc) j).2.2.2) 9), .int (((k_di tx (k_rp tx) (bx, at0, ln, sc) j).2.2.2) 10), .int (((k_di tx (k_rp tx) (bx, at0, ln, sc) j).2.2.2) 11)]))] := rfl
        refine q_putN (k := 1) (j := 0) (f := 9) C hinX4 tyX4 tyX4_ok nmX4 f167 (fun _ h => h) (by decide) rfl rfl (tyX4_ok 9 (by decide)) rfl rfl dX6_work_112 115 rfl rfl rfl (Nat.le_of_ble_eq_true rfl) [[(h0, .inr (5, [.ref aO, .ref aY, .ref aN, .int hsn, .ref aT, .ref aK]))], [(aO, .inr (3, [.ref aB, .ref aL, .ref aS, .int (((k_di tx (k_rp tx) (bx, at0, ln, sc) j).2.2.2) 3), .int (((k_di tx (k_rp tx) (bx, at0, ln, sc) j).2.2.2) 5), .int (((k_di tx (k_rp tx) (bx, at0, ln, sc) j).2.2.2) 6), .int (((k_di tx (k_rp tx) (bx, at0, ln, sc) j).2.2.2) 7), .int (((k_di tx (k_rp tx) (bx, at0, ln, sc) j).2.2.2) 8), .int (((k_di tx (k_rp tx) (bx, at0, ln, sc) j).2.2.2) 9), .int (-1), .int (((k_di tx (k_rp tx) (bx, at0, ln, sc) j).2.2.2) 11)]))], wa, wb, wl, [(aT, .inr (4, [.ref hcx2, .int (nI tx.length)])), (hcx2, .inl (cI, 60, .inl ftx2))], wH_28] rfl ?_
        refine q_aload_n C dX6_work_115 116 4 rfl rfl ?_
        refine q_get (k := 0) (j := 0) (f := 0) C hinX6 f12 (fun _ h => h) (by decide) rfl dX6_work_116 119 rfl rfl rfl rfl ?_
        refine q_iload_n C dX6_work_119 120 1 rfl rfl ?_
        refine q_if_ne C dX6_work_120 123 127 rfl (by decide) (q_eq0 (by omega)) (fun h120 => False.elim (by first | omega | simp_all)) (fun h120 => ?_)
        refine q_iconst (v := -1) C dX6_work_123 124 rfl (by decide) ?_
        refine q_goto C dX6_work_124 128 (by decide) ?_
        refine q_putN (k := 1) (j := 0) (f := 10) C hinX4 tyX4 tyX4_ok nmX4 f170 (fun _ h => h) (by decide) rfl rfl (tyX4_ok 10 (by decide)) rfl rfl dX6_work_128 131 rfl rfl rfl (Nat.le_of_ble_eq_true rfl) [[(h0, .inr (5, [.ref aO, .ref aY, .ref aN, .int hsn, .ref aT, .ref aK]))], [(aO, .inr (3, [.ref aB, .ref aL, .ref aS, .int (((k_di tx (k_rp tx) (bx, at0, ln, sc) j).2.2.2) 3), .int (((k_di tx (k_rp tx) (bx, at0, ln, sc) j).2.2.2) 5), .int (((k_di tx (k_rp tx) (bx, at0, ln, sc) j).2.2.2) 6), .int (((k_di tx (k_rp tx) (bx, at0, ln, sc) j).2.2.2) 7), .int (((k_di tx (k_rp tx) (bx, at0, ln, sc) j).2.2.2) 8), .int (((k_di tx (k_rp tx) (bx, at0, ln, sc) j).2.2.2) 9), .int (-1), .int (-1)]))], wa, wb, wl, [(aT, .inr (4, [.ref hcx2, .int (nI tx.length)])), (hcx2, .inl (cI, 60, .inl ftx2))], wH_28] rfl ?_
        refine q_aload_n C dX6_work_131 132 4 rfl rfl ?_
        refine q_get (k := 0) (j := 0) (f := 4) C hinX6 f33 (fun _ h => h) (by decide) rfl dX6_work_132 135 rfl rfl rfl rfl ?_
        refine q_callV (k := 5) (ci := 4) (n := 0) (rest := []) (Rr := [[(h0, .inr (5, [.ref aO, .ref aY, .ref aN, .int hsn, .ref aT, .ref aK]))], [(aO, .inr (3, [.ref aB, .ref aL, .ref aS, .int (((k_di tx (k_rp tx) (bx, at0, ln, sc) j).2.2.2) 3), .int (((k_di tx (k_rp tx) (bx, at0, ln, sc) j).2.2.2) 5), .int (((k_di tx (k_rp tx) (bx, at0, ln, sc) j).2.2.2) 6), .int (((k_di tx (k_rp tx) (bx, at0, ln, sc) j).2.2.2) 7), .int (((k_di tx (k_rp tx) (bx, at0, ln, sc) j).2.2.2) 8), .int (((k_di tx (k_rp tx) (bx, at0, ln, sc) j).2.2.2) 9), .int (-1), .int (-1)]))], wa, wb, wl, wH_28]) C rfl (k_isT_recv hTox2) rfl (c_X5_clear l hZ hI aT tx ([(aT, .inr (4, [.ref hcx2, .int (nI tx.length)])), (hcx2, .inl (cI, 60, .inl ftx2))]) hTox2) gX6_work_X5_clear rfl rfl rfl (by decide +kernel) B.1 ⟨Nat.le_of_ble_eq_true rfl, Nat.le_of_ble_eq_true rfl⟩ rfl rfl (Nat.le_of_ble_eq_true rfl) dX6_work_135 ⟨(Nat.le_of_ble_eq_true rfl), (Nat.le_of_ble_eq_true rfl)⟩ [5] [0, 1, 2, 3, 4, 6] (by decide : ([5] ++ ([0, 1, 2, 3, 4, 6] : List Nat)).Perm (List.range 7)) rfl rfl 138 rfl (fun v0 R0 t0 ht0 hp0 => ?_)
        obtain ⟨rfl, w_135, hw_135, rfl⟩ := hp0
        refine q_eqs (st' := []) rfl ?_
        refine q_reord [1, 2, 3, 4, 5, 0, 6] (by decide : ([1, 2, 3, 4, 5, 0, 6] : List Nat).Perm (List.range 7)) (Rs' := [[(h0, .inr (5, [.ref aO, .ref aY, .ref aN, .int hsn, .ref aT, .ref aK]))], [(aO, .inr (3, [.ref aB, .ref aL, .ref aS, .int (((k_di tx (k_rp tx) (bx, at0, ln, sc) j).2.2.2) 3), .int (((k_di tx (k_rp tx) (bx, at0, ln, sc) j).2.2.2) 5), .int (((k_di tx (k_rp tx) (bx, at0, ln, sc) j).2.2.2) 6), .int (((k_di tx (k_rp tx) (bx, at0, ln, sc) j).2.2.2) 7), .int (((k_di tx (k_rp tx) (bx, at0, ln, sc) j).2.2.2) 8), .int (((k_di tx (k_rp tx) (bx, at0, ln, sc) j).2.2.2) 9), .int (-1), .int (-1)]))], wa, wb, wl, w_135, wH_28]) rfl rfl ?_
        refine q_iload_n C dX6_work_138 139 3 rfl rfl ?_
        have hOf139 : k_isO cI aO aB aL aS (upd (upd ((k_di tx (k_rp tx) (bx, at0, ln, sc) j).2.2.2) 10 (-1)) 11 (-1)) [(aO, .inr (3, [.ref aB, .ref aL, .ref aS, .int (((k_di tx (k_rp tx) (bx, at0, ln, sc) j).2.2.2) 3), .int (((k_di tx (k_rp tx) (bx, at0, ln, sc) j).2.2.2) 5), .int (((k_di tx (k_rp tx) (bx, at0, ln, sc) j).2.2.2) 6), .int (((k_di tx (k_rp tx) (bx, at0, ln, sc) j).2.2.2) 7), .int (((k_di tx (k_rp tx) (bx, at0, ln, sc) j).2.2.2) 8), .int (((k_di tx (k_rp tx) (bx, at0, ln, sc) j).2.2.2) 9), .int (-1), .int (-1)]))] := rfl
        have hAf139 : k_isA cI aS (upd (upd ((k_di tx (k_rp tx) (bx, at0, ln, sc) j).2.2.2) 10 (-1)) 11 (-1)) wa := k_isA_upd (k_isA_upd hwa (by decide)) (by decide)
        obtain rfl := k_Wk_t hwk (by omega)
        obtain ⟨hdn, hwks⟩ := k_wks_A (tx := tx) (S := (bx, at0, ln, sc)) hu
        exact q_iret C B dX6_work_139 rfl rfl (fun t0 ht0 => ⟨by rw [hdn], _, by rw [hwks]; exact hOf139, _, by rw [hwks]; exact hAf139, _, by rw [hwks]; exact hwb, _, by rw [hwks]; exact hwl, _, hw_135, _, hwH_28, by first | rfl | simp⟩)
      · refine q_iload_n C dX6_work_52 53 1 rfl rfl ?_
        refine q_if_ne C dX6_work_53 56 99 rfl (by decide) (q_eq0 (by omega)) (fun h53 => False.elim (by first | omega | simp_all)) (fun h53 => ?_)
        refine q_aload_n C dX6_work_56 57 4 rfl rfl ?_
        refine q_get (k := 0) (j := 0) (f := 4) C hinX6 f33 (fun _ h => h) (by decide) rfl dX6_work_57 60 rfl rfl rfl rfl ?_
        refine q_iload C dX6_work_60 62 0 rfl rfl ?_
        refine q_callV (k := 5) (ci := 4) (n := 1) (rest := []) (Rr := [[(h0, .inr (5, [.ref aO, .ref aY, .ref aN, .int hsn, .ref aT, .ref aK]))], wo, wa, wb, wl, wH_28]) C rfl (k_isT_recv hTox2) rfl (c_X5_isPartEnd l hZ hI aT tx ([(aT, .inr (4, [.ref hcx2, .int (nI tx.length)])), (hcx2, .inl (cI, 60, .inl ftx2))]) hTox2 x (by omega)) gX6_work_X5_isPartEnd rfl rfl rfl (by decide +kernel) B.1 ⟨Nat.le_of_ble_eq_true rfl, Nat.le_of_ble_eq_true rfl⟩ rfl rfl (Nat.le_of_ble_eq_true rfl) dX6_work_62 ⟨(Nat.le_of_ble_eq_true rfl), (Nat.le_of_ble_eq_true rfl)⟩ [5] [0, 1, 2, 3, 4, 6] (by decide : ([5] ++ ([0, 1, 2, 3, 4, 6] : List Nat)).Perm (List.range 7)) rfl rfl 65 rfl (fun v0 R0 t0 ht0 hp0 => ?_)
        obtain ⟨rfl, rfl⟩ := hp0
        refine q_eqs (st' := [.int (q_b (decide (x = (tx).length ∨ k_sg tx x = 59)))]) rfl ?_
        refine q_reord [1, 2, 3, 4, 5, 0, 6] (by decide : ([1, 2, 3, 4, 5, 0, 6] : List Nat).Perm (List.range 7)) (Rs' := [[(h0, .inr (5, [.ref aO, .ref aY, .ref aN, .int hsn, .ref aT, .ref aK]))], wo, wa, wb, wl, [(aT, .inr (4, [.ref hcx2, .int (nI tx.length)])), (hcx2, .inl (cI, 60, .inl ftx2))], wH_28]) rfl rfl ?_
        refine q_if_eq (P := ¬ (x = (tx).length ∨ k_sg tx x = 59)) C dX6_work_65 68 93 rfl (by decide) q_bd0 (fun h65 => ?_) (fun h65 => ?_)
        · refine q_iinc (v := nI (x + 1)) C dX6_work_93 96 0 rfl rfl (q_ninc1 (by omega)) [(4, .int (nI (x + 1))), (3, .int (nI 0)), (2, .int (nI st)), (1, .int (nI j)), (0, .ref h0)] (by decide) rfl ?_
          refine q_goto C dX6_work_96 40 (by decide) ?_
          refine q_sub (L' := [(4, .int (nI (x + 1))), (3, .int (nI 0)), (2, .int (nI st)), (1, .int (nI j)), (0, .ref h0)]) [0, 1, 2, 3, 4] rfl ?_
          exact ih_lp st m (x + 1) j ps wo wa wb wl (by omega) (by omega) (by omega) (k_Wk_n hwk (by omega) h65) hu hwo hwa hwb hwl
        · have hend := Decidable.not_not.mp h65
          obtain ⟨hk, hst, hjl, hat⟩ := k_Wk_at hwk (by omega) hend
          have hblk := k_blk_end hend
          have hSj := k_Sw_di hsw j hj
          refine q_aload_n C dX6_work_68 69 4 rfl rfl ?_
          refine q_iload_n C dX6_work_69 70 2 rfl rfl ?_
          refine q_iload C dX6_work_70 72 0 rfl rfl ?_
          refine q_callV (k := 0) (ci := 5) (n := 2) (rest := []) (Rr := [wH_28]) C rfl (k_isX_recv hXox1) rfl (c_X6_doPart l hZ hI hN hKs h0 aO aY aN hsn aT aK ([(h0, .inr (5, [.ref aO, .ref aY, .ref aN, .int hsn, .ref aT, .ref aK]))]) hXox1 aB aL aS ((k_di tx (k_rp tx) (bx, at0, ln, sc) j).2.2.2) wo hwo wa hwa ((k_di tx (k_rp tx) (bx, at0, ln, sc) j).1) ((k_di tx (k_rp tx) (bx, at0, ln, sc) j).2.1) wb hwb ((k_di tx (k_rp tx) (bx, at0, ln, sc) j).2.2.1) wl hwl tx ([(aT, .inr (4, [.ref hcx2, .int (nI tx.length)])), (hcx2, .inl (cI, 60, .inl ftx2))]) hTox2 st x hSj hk.1 hk.2 (by omega) (by omega) hblk) gX6_work_X6_doPart rfl rfl rfl (by decide +kernel) B.1 ⟨Nat.le_of_ble_eq_true rfl, Nat.le_of_ble_eq_true rfl⟩ rfl rfl (Nat.le_of_ble_eq_true rfl) dX6_work_72 ⟨(Nat.le_of_ble_eq_true rfl), (Nat.le_of_ble_eq_true rfl)⟩ [0, 1, 2, 3, 4, 5] [6] (by decide : ([0, 1, 2, 3, 4, 5] ++ ([6] : List Nat)).Perm (List.range 7)) rfl rfl 75 rfl (fun v0 R0 t0 ht0 hp0 => ?_)
          obtain ⟨rfl, wO_72, hwO_72, wA_72, hwA_72, wB_72, hwB_72, wL_72, hwL_72, rfl⟩ := hp0
          refine q_eqs (st' := [.int (nI ((k_dpt tx (((k_di tx (k_rp tx) (bx, at0, ln, sc) j).1), ((k_di tx (k_rp tx) (bx, at0, ln, sc) j).2.1), ((k_di tx (k_rp tx) (bx, at0, ln, sc) j).2.2.1), ((k_di tx (k_rp tx) (bx, at0, ln, sc) j).2.2.2)) st).2))]) rfl ?_
          refine q_eqR (Rs' := [[(h0, .inr (5, [.ref aO, .ref aY, .ref aN, .int hsn, .ref aT, .ref aK]))], wO_72, wA_72, wB_72, wL_72, [(aT, .inr (4, [.ref hcx2, .int (nI tx.length)])), (hcx2, .inl (cI, 60, .inl ftx2))], wH_28]) rfl ?_
          have hdd : (k_dpt tx ((k_di tx (k_rp tx) (bx, at0, ln, sc) j).1, (k_di tx (k_rp tx) (bx, at0, ln, sc) j).2.1, (k_di tx (k_rp tx) (bx, at0, ln, sc) j).2.2.1, (k_di tx (k_rp tx) (bx, at0, ln, sc) j).2.2.2) st).2 = (k_dy tx (k_rp tx) (bx, at0, ln, sc) j) := by
            show _ = (k_dpt tx (k_di tx (k_rp tx) (bx, at0, ln, sc) j) (k_at (k_rp tx) j)).2
            rw [hat]
          by_cases hdy : (k_dy tx (k_rp tx) (bx, at0, ln, sc) j) = 0
          · refine q_eqs (st' := [.int (nI 0)]) (by rw [hdd, hdy]) ?_
            refine q_istore_n C dX6_work_75 76 rfl [(3, .int (nI 0)), (4, .int (nI x)), (2, .int (nI st)), (1, .int (nI j)), (0, .ref h0)] (by decide) rfl ?_
            refine q_iload_n C dX6_work_76 77 3 rfl rfl ?_
            refine q_iload_n C dX6_work_77 78 0 rfl rfl ?_
            refine q_if_ne C dX6_work_78 81 85 rfl (by decide) (q_eq0 (by omega)) (fun h78 => False.elim (by first | omega | simp_all)) (fun h78 => ?_)
            refine q_iconst (v := nI 1) C dX6_work_81 82 rfl (by decide) ?_
            refine q_goto C dX6_work_82 86 (by decide) ?_
            refine q_iadd (v := nI (j + 1)) C dX6_work_86 87 rfl (q_nadd (by omega)) ?_
            refine q_istore_n C dX6_work_87 88 rfl [(1, .int (nI (j + 1))), (3, .int (nI 0)), (4, .int (nI x)), (2, .int (nI st)), (0, .ref h0)] (by decide) rfl ?_
            refine q_iload C dX6_work_88 90 2 rfl rfl ?_
            refine q_iconst (v := nI 1) C dX6_work_90 91 rfl (by decide) ?_
            refine q_iadd (v := nI (x + 1)) C dX6_work_91 92 rfl (q_nadd (by omega)) ?_
            refine q_istore_n C dX6_work_92 93 rfl [(2, .int (nI (x + 1))), (1, .int (nI (j + 1))), (3, .int (nI 0)), (4, .int (nI x)), (0, .ref h0)] (by decide) rfl ?_
            refine q_iinc (v := nI (x + 1)) C dX6_work_93 96 3 rfl rfl (q_ninc1 (by omega)) [(4, .int (nI (x + 1))), (2, .int (nI (x + 1))), (1, .int (nI (j + 1))), (3, .int (nI 0)), (0, .ref h0)] (by decide) rfl ?_
            refine q_goto C dX6_work_96 40 (by decide) ?_
            refine q_sub (L' := [(4, .int (nI (x + 1))), (3, .int (nI 0)), (2, .int (nI (x + 1))), (1, .int (nI (j + 1))), (0, .ref h0)]) [0, 3, 1, 2, 4] rfl ?_
            exact ih_lp (x + 1) (m - 1) (x + 1) (j + 1) (ps ++ [st]) wO_72 wA_72 wB_72 wL_72 (by omega) (by omega) (by omega) (k_Wk_y hwk (by omega) hend (by omega)) (fun u hq => (Decidable.em (u = j)).elim (fun z => by subst z; exact hdy) (fun z => hu u (by omega))) (by rw [k_di_s, hat]; exact hwO_72) (by rw [k_di_s, hat]; exact hwA_72) (by rw [k_di_s, hat]; exact hwB_72) (by rw [k_di_s, hat]; exact hwL_72)
          · have hdyl := k_dy_le (tx := tx) (S := k_di tx (k_rp tx) (bx, at0, ln, sc) j) (a := k_at (k_rp tx) j)
            have hdyl2 : (k_dy tx (k_rp tx) (bx, at0, ln, sc) j) ≤ 7 := hdyl
            refine q_eqs (st' := [.int (nI ((k_dy tx (k_rp tx) (bx, at0, ln, sc) j)))]) (by rw [hdd]) ?_
            refine q_istore_n C dX6_work_75 76 rfl [(3, .int (nI ((k_dy tx (k_rp tx) (bx, at0, ln, sc) j)))), (4, .int (nI x)), (2, .int (nI st)), (1, .int (nI j)), (0, .ref h0)] (by decide) rfl ?_
            refine q_iload_n C dX6_work_76 77 3 rfl rfl ?_
            refine q_iload_n C dX6_work_77 78 0 rfl rfl ?_
            refine q_if_ne C dX6_work_78 81 85 rfl (by decide) (q_eq0 (by omega)) (fun h78 => ?_) (fun h78 => False.elim (by first | omega | simp_all))
            refine q_iconst (v := nI 0) C dX6_work_85 86 rfl (by decide) ?_
            refine q_iadd (v := nI j) C dX6_work_86 87 rfl (q_nadd (by omega)) ?_
            refine q_istore_n C dX6_work_87 88 rfl [(1, .int (nI j)), (3, .int (nI ((k_dy tx (k_rp tx) (bx, at0, ln, sc) j)))), (4, .int (nI x)), (2, .int (nI st)), (0, .ref h0)] (by decide) rfl ?_
            refine q_iload C dX6_work_88 90 2 rfl rfl ?_
            refine q_iconst (v := nI 1) C dX6_work_90 91 rfl (by decide) ?_
            refine q_iadd (v := nI (x + 1)) C dX6_work_91 92 rfl (q_nadd (by omega)) ?_
            refine q_istore_n C dX6_work_92 93 rfl [(2, .int (nI (x + 1))), (1, .int (nI j)), (3, .int (nI ((k_dy tx (k_rp tx) (bx, at0, ln, sc) j)))), (4, .int (nI x)), (0, .ref h0)] (by decide) rfl ?_
            refine q_iinc (v := nI (x + 1)) C dX6_work_93 96 3 rfl rfl (q_ninc1 (by omega)) [(4, .int (nI (x + 1))), (2, .int (nI (x + 1))), (1, .int (nI j)), (3, .int (nI ((k_dy tx (k_rp tx) (bx, at0, ln, sc) j)))), (0, .ref h0)] (by decide) rfl ?_
            refine q_goto C dX6_work_96 40 (by decide) ?_
            refine q_iload C dX6_work_40 42 0 rfl rfl ?_
            refine q_aload_n C dX6_work_42 43 4 rfl rfl ?_
            refine q_get (k := 0) (j := 0) (f := 4) C hinX6 f33 (fun _ h => h) (by decide) rfl dX6_work_43 46 rfl rfl rfl rfl ?_
            refine q_getN (k := 5) (j := 0) (f := 1) C hinX5 f140 (fun _ h => h) (by decide) rfl dX6_work_46 49 rfl rfl rfl rfl ?_
            refine q_icmp_gt C dX6_work_49 52 99 rfl (by decide) (nI_ltI (by omega) (by omega)) (fun h49 => ?_) (fun h49 => ?_)
            · refine q_aload_n C dX6_work_99 100 4 rfl rfl ?_
              refine q_get (k := 0) (j := 0) (f := 0) C hinX6 f12 (fun _ h => h) (by decide) rfl dX6_work_100 103 rfl rfl rfl rfl ?_
              refine q_iload_n C dX6_work_103 104 3 rfl rfl ?_
              refine q_if_ne C dX6_work_104 107 111 rfl (by decide) (q_eq0 (by omega)) (fun h104 => ?_) (fun h104 => False.elim (by first | omega | simp_all))
              refine q_iload_n C dX6_work_111 112 2 rfl rfl ?_
              obtain rfl := hwO_72
              have hOox4 : k_isO cI aO aB aL aS ((k_dpt tx (((k_di tx (k_rp tx) (bx, at0, ln, sc) j).1), ((k_di tx (k_rp tx) (bx, at0, ln, sc) j).2.1), ((k_di tx (k_rp tx) (bx, at0, ln, sc) j).2.2.1), ((k_di tx (k_rp tx) (bx, at0, ln, sc) j).2.2.2)) st).1.2.2.2) [(aO, .inr (3, [.ref aB, .ref aL, .ref aS, .int (((k_dpt tx (((k_di tx (k_rp tx) (bx, at0, ln, sc) j).1), ((k_di tx (k_rp tx) (bx, at0, ln, sc) j).2.1), ((k_di tx (k_rp tx) (bx, at0, ln, sc) j).2.2.1), ((k_di tx (k_rp tx) (bx, at0, ln, sc) j).2.2.2)) st).1.2.2.2) 3), .int (((k_dpt tx (((k_di tx (k_rp tx) (bx, at0, ln, sc) j).1), ((k_di tx (k_rp tx) (bx, at0, ln, sc) j).2.1), ((k_di tx (k_rp tx) (bx, at0, ln, sc) j).2.2.1), ((k_di tx (k_rp tx) (bx, at0, ln, sc) j).2.2.2)) st).1.2.2.2) 5), .int (((k_dpt tx (((k_di tx (k_rp tx) (bx, at0, ln, sc) j).1), ((k_di tx (k_rp tx) (bx, at0, ln, sc) j).2.1), ((k_di tx (k_rp tx) (bx, at0, ln, sc) j).2.2.1), ((k_di tx (k_rp tx) (bx, at0, ln, sc) j).2.2.2)) st).1.2.2.2) 6), .int (((k_dpt tx (((k_di tx (k_rp tx) (bx, at0, ln, sc) j).1), ((k_di tx (k_rp tx) (bx, at0, ln, sc) j).2.1), ((k_di tx (k_rp tx) (bx, at0, ln, sc) j).2.2.1), ((k_di tx (k_rp tx) (bx, at0, ln, sc) j).2.2.2)) st).1.2.2.2) 7), .int (((k_dpt tx (((k_di tx (k_rp tx) (bx, at0, ln, sc) j).1), ((k_di tx (k_rp tx) (bx, at0, ln, sc) j).2.1), ((k_di tx (k_rp tx) (bx, at0, ln, sc) j).2.2.1), ((k_di tx (k_rp tx) (bx, at0, ln, sc) j).2.2.2)) st).1.2.2.2) 8), .int (((k_dpt tx (((k_di tx (k_rp tx) (bx, at0, ln, sc) j).1), ((k_di tx (k_rp tx) (bx, at0, ln, sc) j).2.1), ((k_di tx (k_rp tx) (bx, at0, ln, sc) j).2.2.1), ((k_di tx (k_rp tx) (bx, at0, ln, sc) j).2.2.2)) st).1.2.2.2) 9), .int (((k_dpt tx (((k_di tx (k_rp tx) (bx, at0, ln, sc) j).1), ((k_di tx (k_rp tx) (bx, at0, ln, sc) j).2.1), ((k_di tx (k_rp tx) (bx, at0, ln, sc) j).2.2.1), ((k_di tx (k_rp tx) (bx, at0, ln, sc) j).2.2.2)) st).1.2.2.2) 10), .int (((k_dpt tx (((k_di tx (k_rp tx) (bx, at0, ln, sc) j).1), ((k_di tx (k_rp tx) (bx, at0, ln, sc) j).2.1), ((k_di tx (k_rp tx) (bx, at0, ln, sc) j).2.2.1), ((k_di tx (k_rp tx) (bx, at0, ln, sc) j).2.2.2)) st).1.2.2.2) 11)]))] := rfl
              refine q_putN (k := 1) (j := 0) (f := 9) C hinX4 tyX4 tyX4_ok nmX4 f167 (fun _ h => h) (by decide) rfl rfl (tyX4_ok 9 (by decide)) rfl rfl dX6_work_112 115 rfl rfl rfl (Nat.le_of_ble_eq_true rfl) [[(h0, .inr (5, [.ref aO, .ref aY, .ref aN, .int hsn, .ref aT, .ref aK]))], [(aO, .inr (3, [.ref aB, .ref aL, .ref aS, .int (((k_dpt tx (((k_di tx (k_rp tx) (bx, at0, ln, sc) j).1), ((k_di tx (k_rp tx) (bx, at0, ln, sc) j).2.1), ((k_di tx (k_rp tx) (bx, at0, ln, sc) j).2.2.1), ((k_di tx (k_rp tx) (bx, at0, ln, sc) j).2.2.2)) st).1.2.2.2) 3), .int (((k_dpt tx (((k_di tx (k_rp tx) (bx, at0, ln, sc) j).1), ((k_di tx (k_rp tx) (bx, at0, ln, sc) j).2.1), ((k_di tx (k_rp tx) (bx, at0, ln, sc) j).2.2.1), ((k_di tx (k_rp tx) (bx, at0, ln, sc) j).2.2.2)) st).1.2.2.2) 5), .int (((k_dpt tx (((k_di tx (k_rp tx) (bx, at0, ln, sc) j).1), ((k_di tx (k_rp tx) (bx, at0, ln, sc) j).2.1), ((k_di tx (k_rp tx) (bx, at0, ln, sc) j).2.2.1), ((k_di tx (k_rp tx) (bx, at0, ln, sc) j).2.2.2)) st).1.2.2.2) 6), .int (((k_dpt tx (((k_di tx (k_rp tx) (bx, at0, ln, sc) j).1), ((k_di tx (k_rp tx) (bx, at0, ln, sc) j).2.1), ((k_di tx (k_rp tx) (bx, at0, ln, sc) j).2.2.1), ((k_di tx (k_rp tx) (bx, at0, ln, sc) j).2.2.2)) st).1.2.2.2) 7), .int (((k_dpt tx (((k_di tx (k_rp tx) (bx, at0, ln, sc) j).1), ((k_di tx (k_rp tx) (bx, at0, ln, sc) j).2.1), ((k_di tx (k_rp tx) (bx, at0, ln, sc) j).2.2.1), ((k_di tx (k_rp tx) (bx, at0, ln, sc) j).2.2.2)) st).1.2.2.2) 8), .int (((k_dpt tx (((k_di tx (k_rp tx) (bx, at0, ln, sc) j).1), ((k_di tx (k_rp tx) (bx, at0, ln, sc) j).2.1), ((k_di tx (k_rp tx) (bx, at0, ln, sc) j).2.2.1), ((k_di tx (k_rp tx) (bx, at0, ln, sc) j).2.2.2)) st).1.2.2.2) 9), .int (nI j), .int (((k_dpt tx (((k_di tx (k_rp tx) (bx, at0, ln, sc) j).1), ((k_di tx (k_rp tx) (bx, at0, ln, sc) j).2.1), ((k_di tx (k_rp tx) (bx, at0, ln, sc) j).2.2.1), ((k_di tx (k_rp tx) (bx, at0, ln, sc) j).2.2.2)) st).1.2.2.2) 11)]))], wA_72, wB_72, wL_72, [(aT, .inr (4, [.ref hcx2, .int (nI tx.length)])), (hcx2, .inl (cI, 60, .inl ftx2))], wH_28] rfl ?_
              refine q_aload_n C dX6_work_115 116 4 rfl rfl ?_
              refine q_get (k := 0) (j := 0) (f := 0) C hinX6 f12 (fun _ h => h) (by decide) rfl dX6_work_116 119 rfl rfl rfl rfl ?_
              refine q_iload_n C dX6_work_119 120 3 rfl rfl ?_
              refine q_if_ne C dX6_work_120 123 127 rfl (by decide) (q_eq0 (by omega)) (fun h120 => ?_) (fun h120 => False.elim (by first | omega | simp_all))
              refine q_iload_n C dX6_work_127 128 3 rfl rfl ?_
              refine q_putN (k := 1) (j := 0) (f := 10) C hinX4 tyX4 tyX4_ok nmX4 f170 (fun _ h => h) (by decide) rfl rfl (tyX4_ok 10 (by decide)) rfl rfl dX6_work_128 131 rfl rfl rfl (Nat.le_of_ble_eq_true rfl) [[(h0, .inr (5, [.ref aO, .ref aY, .ref aN, .int hsn, .ref aT, .ref aK]))], [(aO, .inr (3, [.ref aB, .ref aL, .ref aS, .int (((k_dpt tx (((k_di tx (k_rp tx) (bx, at0, ln, sc) j).1), ((k_di tx (k_rp tx) (bx, at0, ln, sc) j).2.1), ((k_di tx (k_rp tx) (bx, at0, ln, sc) j).2.2.1), ((k_di tx (k_rp tx) (bx, at0, ln, sc) j).2.2.2)) st).1.2.2.2) 3), .int (((k_dpt tx (((k_di tx (k_rp tx) (bx, at0, ln, sc) j).1), ((k_di tx (k_rp tx) (bx, at0, ln, sc) j).2.1), ((k_di tx (k_rp tx) (bx, at0, ln, sc) j).2.2.1), ((k_di tx (k_rp tx) (bx, at0, ln, sc) j).2.2.2)) st).1.2.2.2) 5), .int (((k_dpt tx (((k_di tx (k_rp tx) (bx, at0, ln, sc) j).1), ((k_di tx (k_rp tx) (bx, at0, ln, sc) j).2.1), ((k_di tx (k_rp tx) (bx, at0, ln, sc) j).2.2.1), ((k_di tx (k_rp tx) (bx, at0, ln, sc) j).2.2.2)) st).1.2.2.2) 6), .int (((k_dpt tx (((k_di tx (k_rp tx) (bx, at0, ln, sc) j).1), ((k_di tx (k_rp tx) (bx, at0, ln, sc) j).2.1), ((k_di tx (k_rp tx) (bx, at0, ln, sc) j).2.2.1), ((k_di tx (k_rp tx) (bx, at0, ln, sc) j).2.2.2)) st).1.2.2.2) 7), .int (((k_dpt tx (((k_di tx (k_rp tx) (bx, at0, ln, sc) j).1), ((k_di tx (k_rp tx) (bx, at0, ln, sc) j).2.1), ((k_di tx (k_rp tx) (bx, at0, ln, sc) j).2.2.1), ((k_di tx (k_rp tx) (bx, at0, ln, sc) j).2.2.2)) st).1.2.2.2) 8), .int (((k_dpt tx (((k_di tx (k_rp tx) (bx, at0, ln, sc) j).1), ((k_di tx (k_rp tx) (bx, at0, ln, sc) j).2.1), ((k_di tx (k_rp tx) (bx, at0, ln, sc) j).2.2.1), ((k_di tx (k_rp tx) (bx, at0, ln, sc) j).2.2.2)) st).1.2.2.2) 9), .int (nI j), .int (nI ((k_dy tx (k_rp tx) (bx, at0, ln, sc) j)))]))], wA_72, wB_72, wL_72, [(aT, .inr (4, [.ref hcx2, .int (nI tx.length)])), (hcx2, .inl (cI, 60, .inl ftx2))], wH_28] rfl ?_
              refine q_aload_n C dX6_work_131 132 4 rfl rfl ?_
              refine q_get (k := 0) (j := 0) (f := 4) C hinX6 f33 (fun _ h => h) (by decide) rfl dX6_work_132 135 rfl rfl rfl rfl ?_
              refine q_callV (k := 5) (ci := 4) (n := 0) (rest := []) (Rr := [[(h0, .inr (5, [.ref aO, .ref aY, .ref aN, .int hsn, .ref aT, .ref aK]))], [(aO, .inr (3, [.ref aB, .ref aL, .ref aS, .int (((k_dpt tx (((k_di tx (k_rp tx) (bx, at0, ln, sc) j).1), ((k_di tx (k_rp tx) (bx, at0, ln, sc) j).2.1), ((k_di tx (k_rp tx) (bx, at0, ln, sc) j).2.2.1), ((k_di tx (k_rp tx) (bx, at0, ln, sc) j).2.2.2)) st).1.2.2.2) 3), .int (((k_dpt tx (((k_di tx (k_rp tx) (bx, at0, ln, sc) j).1), ((k_di tx (k_rp tx) (bx, at0, ln, sc) j).2.1), ((k_di tx (k_rp tx) (bx, at0, ln, sc) j).2.2.1), ((k_di tx (k_rp tx) (bx, at0, ln, sc) j).2.2.2)) st).1.2.2.2) 5), .int (((k_dpt tx (((k_di tx (k_rp tx) (bx, at0, ln, sc) j).1), ((k_di tx (k_rp tx) (bx, at0, ln, sc) j).2.1), ((k_di tx (k_rp tx) (bx, at0, ln, sc) j).2.2.1), ((k_di tx (k_rp tx) (bx, at0, ln, sc) j).2.2.2)) st).1.2.2.2) 6), .int (((k_dpt tx (((k_di tx (k_rp tx) (bx, at0, ln, sc) j).1), ((k_di tx (k_rp tx) (bx, at0, ln, sc) j).2.1), ((k_di tx (k_rp tx) (bx, at0, ln, sc) j).2.2.1), ((k_di tx (k_rp tx) (bx, at0, ln, sc) j).2.2.2)) st).1.2.2.2) 7), .int (((k_dpt tx (((k_di tx (k_rp tx) (bx, at0, ln, sc) j).1), ((k_di tx (k_rp tx) (bx, at0, ln, sc) j).2.1), ((k_di tx (k_rp tx) (bx, at0, ln, sc) j).2.2.1), ((k_di tx (k_rp tx) (bx, at0, ln, sc) j).2.2.2)) st).1.2.2.2) 8), .int (((k_dpt tx (((k_di tx (k_rp tx) (bx, at0, ln, sc) j).1), ((k_di tx (k_rp tx) (bx, at0, ln, sc) j).2.1), ((k_di tx (k_rp tx) (bx, at0, ln, sc) j).2.2.1), ((k_di tx (k_rp tx) (bx, at0, ln, sc) j).2.2.2)) st).1.2.2.2) 9), .int (nI j), .int (nI ((k_dy tx (k_rp tx) (bx, at0, ln, sc) j)))]))], wA_72, wB_72, wL_72, wH_28]) C rfl (k_isT_recv hTox2) rfl (c_X5_clear l hZ hI aT tx ([(aT, .inr (4, [.ref hcx2, .int (nI tx.length)])), (hcx2, .inl (cI, 60, .inl ftx2))]) hTox2) gX6_work_X5_clear rfl rfl rfl (by decide +kernel) B.1 ⟨Nat.le_of_ble_eq_true rfl, Nat.le_of_ble_eq_true rfl⟩ rfl rfl (Nat.le_of_ble_eq_true rfl) dX6_work_135 ⟨(Nat.le_of_ble_eq_true rfl), (Nat.le_of_ble_eq_true rfl)⟩ [5] [0, 1, 2, 3, 4, 6] (by decide : ([5] ++ ([0, 1, 2, 3, 4, 6] : List Nat)).Perm (List.range 7)) rfl rfl 138 rfl (fun v0 R0 t0 ht0 hp0 => ?_)
              obtain ⟨rfl, w_135, hw_135, rfl⟩ := hp0
              refine q_eqs (st' := []) rfl ?_
              refine q_reord [1, 2, 3, 4, 5, 0, 6] (by decide : ([1, 2, 3, 4, 5, 0, 6] : List Nat).Perm (List.range 7)) (Rs' := [[(h0, .inr (5, [.ref aO, .ref aY, .ref aN, .int hsn, .ref aT, .ref aK]))], [(aO, .inr (3, [.ref aB, .ref aL, .ref aS, .int (((k_dpt tx (((k_di tx (k_rp tx) (bx, at0, ln, sc) j).1), ((k_di tx (k_rp tx) (bx, at0, ln, sc) j).2.1), ((k_di tx (k_rp tx) (bx, at0, ln, sc) j).2.2.1), ((k_di tx (k_rp tx) (bx, at0, ln, sc) j).2.2.2)) st).1.2.2.2) 3), .int (((k_dpt tx (((k_di tx (k_rp tx) (bx, at0, ln, sc) j).1), ((k_di tx (k_rp tx) (bx, at0, ln, sc) j).2.1), ((k_di tx (k_rp tx) (bx, at0, ln, sc) j).2.2.1), ((k_di tx (k_rp tx) (bx, at0, ln, sc) j).2.2.2)) st).1.2.2.2) 5), .int (((k_dpt tx (((k_di tx (k_rp tx) (bx, at0, ln, sc) j).1), ((k_di tx (k_rp tx) (bx, at0, ln, sc) j).2.1), ((k_di tx (k_rp tx) (bx, at0, ln, sc) j).2.2.1), ((k_di tx (k_rp tx) (bx, at0, ln, sc) j).2.2.2)) st).1.2.2.2) 6), .int (((k_dpt tx (((k_di tx (k_rp tx) (bx, at0, ln, sc) j).1), ((k_di tx (k_rp tx) (bx, at0, ln, sc) j).2.1), ((k_di tx (k_rp tx) (bx, at0, ln, sc) j).2.2.1), ((k_di tx (k_rp tx) (bx, at0, ln, sc) j).2.2.2)) st).1.2.2.2) 7), .int (((k_dpt tx (((k_di tx (k_rp tx) (bx, at0, ln, sc) j).1), ((k_di tx (k_rp tx) (bx, at0, ln, sc) j).2.1), ((k_di tx (k_rp tx) (bx, at0, ln, sc) j).2.2.1), ((k_di tx (k_rp tx) (bx, at0, ln, sc) j).2.2.2)) st).1.2.2.2) 8), .int (((k_dpt tx (((k_di tx (k_rp tx) (bx, at0, ln, sc) j).1), ((k_di tx (k_rp tx) (bx, at0, ln, sc) j).2.1), ((k_di tx (k_rp tx) (bx, at0, ln, sc) j).2.2.1), ((k_di tx (k_rp tx) (bx, at0, ln, sc) j).2.2.2)) st).1.2.2.2) 9), .int (nI j), .int (nI ((k_dy tx (k_rp tx) (bx, at0, ln, sc) j)))]))], wA_72, wB_72, wL_72, w_135, wH_28]) rfl rfl ?_
              refine q_iload_n C dX6_work_138 139 2 rfl rfl ?_
              have hOf139 : k_isO cI aO aB aL aS (upd (upd ((k_dpt tx (((k_di tx (k_rp tx) (bx, at0, ln, sc) j).1), ((k_di tx (k_rp tx) (bx, at0, ln, sc) j).2.1), ((k_di tx (k_rp tx) (bx, at0, ln, sc) j).2.2.1), ((k_di tx (k_rp tx) (bx, at0, ln, sc) j).2.2.2)) st).1.2.2.2) 10 (nI j)) 11 (nI ((k_dy tx (k_rp tx) (bx, at0, ln, sc) j)))) [(aO, .inr (3, [.ref aB, .ref aL, .ref aS, .int (((k_dpt tx (((k_di tx (k_rp tx) (bx, at0, ln, sc) j).1), ((k_di tx (k_rp tx) (bx, at0, ln, sc) j).2.1), ((k_di tx (k_rp tx) (bx, at0, ln, sc) j).2.2.1), ((k_di tx (k_rp tx) (bx, at0, ln, sc) j).2.2.2)) st).1.2.2.2) 3), .int (((k_dpt tx (((k_di tx (k_rp tx) (bx, at0, ln, sc) j).1), ((k_di tx (k_rp tx) (bx, at0, ln, sc) j).2.1), ((k_di tx (k_rp tx) (bx, at0, ln, sc) j).2.2.1), ((k_di tx (k_rp tx) (bx, at0, ln, sc) j).2.2.2)) st).1.2.2.2) 5), .int (((k_dpt tx (((k_di tx (k_rp tx) (bx, at0, ln, sc) j).1), ((k_di tx (k_rp tx) (bx, at0, ln, sc) j).2.1), ((k_di tx (k_rp tx) (bx, at0, ln, sc) j).2.2.1), ((k_di tx (k_rp tx) (bx, at0, ln, sc) j).2.2.2)) st).1.2.2.2) 6), .int (((k_dpt tx (((k_di tx (k_rp tx) (bx, at0, ln, sc) j).1), ((k_di tx (k_rp tx) (bx, at0, ln, sc) j).2.1), ((k_di tx (k_rp tx) (bx, at0, ln, sc) j).2.2.1), ((k_di tx (k_rp tx) (bx, at0, ln, sc) j).2.2.2)) st).1.2.2.2) 7), .int (((k_dpt tx (((k_di tx (k_rp tx) (bx, at0, ln, sc) j).1), ((k_di tx (k_rp tx) (bx, at0, ln, sc) j).2.1), ((k_di tx (k_rp tx) (bx, at0, ln, sc) j).2.2.1), ((k_di tx (k_rp tx) (bx, at0, ln, sc) j).2.2.2)) st).1.2.2.2) 8), .int (((k_dpt tx (((k_di tx (k_rp tx) (bx, at0, ln, sc) j).1), ((k_di tx (k_rp tx) (bx, at0, ln, sc) j).2.1), ((k_di tx (k_rp tx) (bx, at0, ln, sc) j).2.2.1), ((k_di tx (k_rp tx) (bx, at0, ln, sc) j).2.2.2)) st).1.2.2.2) 9), .int (nI j), .int (nI ((k_dy tx (k_rp tx) (bx, at0, ln, sc) j)))]))] := rfl
              have hAf139 : k_isA cI aS (upd (upd ((k_dpt tx (((k_di tx (k_rp tx) (bx, at0, ln, sc) j).1), ((k_di tx (k_rp tx) (bx, at0, ln, sc) j).2.1), ((k_di tx (k_rp tx) (bx, at0, ln, sc) j).2.2.1), ((k_di tx (k_rp tx) (bx, at0, ln, sc) j).2.2.2)) st).1.2.2.2) 10 (nI j)) 11 (nI ((k_dy tx (k_rp tx) (bx, at0, ln, sc) j)))) wA_72 := k_isA_upd (k_isA_upd hwA_72 (by decide)) (by decide)
              obtain ⟨hdn, hwks⟩ := k_wks_B (tx := tx) (S := (bx, at0, ln, sc)) (j := j) hjl hdy hu
              exact q_iret C B dX6_work_139 rfl rfl (fun t0 ht0 => ⟨by rw [hdn], _, by rw [hwks, k_di_s, hat]; exact hOf139, _, by rw [hwks, k_di_s, hat]; exact hAf139, _, by rw [hwks, k_di_s, hat]; exact hwB_72, _, by rw [hwks, k_di_s, hat]; exact hwL_72, _, hw_135, _, hwH_28, by first | rfl | simp⟩)
            · refine q_iload_n C dX6_work_52 53 3 rfl rfl ?_
              refine q_if_ne C dX6_work_53 56 99 rfl (by decide) (q_eq0 (by omega)) (fun h53 => ?_) (fun h53 => False.elim (by first | omega | simp_all))
              refine q_aload_n C dX6_work_99 100 4 rfl rfl ?_
              refine q_get (k := 0) (j := 0) (f := 0) C hinX6 f12 (fun _ h => h) (by decide) rfl dX6_work_100 103 rfl rfl rfl rfl ?_
              refine q_iload_n C dX6_work_103 104 3 rfl rfl ?_
              refine q_if_ne C dX6_work_104 107 111 rfl (by decide) (q_eq0 (by omega)) (fun h104 => ?_) (fun h104 => False.elim (by first | omega | simp_all))
              refine q_iload_n C dX6_work_111 112 2 rfl rfl ?_
              obtain rfl := hwO_72
              have hOox5 : k_isO cI aO aB aL aS ((k_dpt tx (((k_di tx (k_rp tx) (bx, at0, ln, sc) j).1), ((k_di tx (k_rp tx) (bx, at0, ln, sc) j).2.1), ((k_di tx (k_rp tx) (bx, at0, ln, sc) j).2.2.1), ((k_di tx (k_rp tx) (bx, at0, ln, sc) j).2.2.2)) st).1.2.2.2) [(aO, .inr (3, [.ref aB, .ref aL, .ref aS, .int (((k_dpt tx (((k_di tx (k_rp tx) (bx, at0, ln, sc) j).1), ((k_di tx (k_rp tx) (bx, at0, ln, sc) j).2.1), ((k_di tx (k_rp tx) (bx, at0, ln, sc) j).2.2.1), ((k_di tx (k_rp tx) (bx, at0, ln, sc) j).2.2.2)) st).1.2.2.2) 3), .int (((k_dpt tx (((k_di tx (k_rp tx) (bx, at0, ln, sc) j).1), ((k_di tx (k_rp tx) (bx, at0, ln, sc) j).2.1), ((k_di tx (k_rp tx) (bx, at0, ln, sc) j).2.2.1), ((k_di tx (k_rp tx) (bx, at0, ln, sc) j).2.2.2)) st).1.2.2.2) 5), .int (((k_dpt tx (((k_di tx (k_rp tx) (bx, at0, ln, sc) j).1), ((k_di tx (k_rp tx) (bx, at0, ln, sc) j).2.1), ((k_di tx (k_rp tx) (bx, at0, ln, sc) j).2.2.1), ((k_di tx (k_rp tx) (bx, at0, ln, sc) j).2.2.2)) st).1.2.2.2) 6), .int (((k_dpt tx (((k_di tx (k_rp tx) (bx, at0, ln, sc) j).1), ((k_di tx (k_rp tx) (bx, at0, ln, sc) j).2.1), ((k_di tx (k_rp tx) (bx, at0, ln, sc) j).2.2.1), ((k_di tx (k_rp tx) (bx, at0, ln, sc) j).2.2.2)) st).1.2.2.2) 7), .int (((k_dpt tx (((k_di tx (k_rp tx) (bx, at0, ln, sc) j).1), ((k_di tx (k_rp tx) (bx, at0, ln, sc) j).2.1), ((k_di tx (k_rp tx) (bx, at0, ln, sc) j).2.2.1), ((k_di tx (k_rp tx) (bx, at0, ln, sc) j).2.2.2)) st).1.2.2.2) 8), .int (((k_dpt tx (((k_di tx (k_rp tx) (bx, at0, ln, sc) j).1), ((k_di tx (k_rp tx) (bx, at0, ln, sc) j).2.1), ((k_di tx (k_rp tx) (bx, at0, ln, sc) j).2.2.1), ((k_di tx (k_rp tx) (bx, at0, ln, sc) j).2.2.2)) st).1.2.2.2) 9), .int (((k_dpt tx (((k_di tx (k_rp tx) (bx, at0, ln, sc) j).1), ((k_di tx (k_rp tx) (bx, at0, ln, sc) j).2.1), ((k_di tx (k_rp tx) (bx, at0, ln, sc) j).2.2.1), ((k_di tx (k_rp tx) (bx, at0, ln, sc) j).2.2.2)) st).1.2.2.2) 10), .int (((k_dpt tx (((k_di tx (k_rp tx) (bx, at0, ln, sc) j).1), ((k_di tx (k_rp tx) (bx, at0, ln, sc) j).2.1), ((k_di tx (k_rp tx) (bx, at0, ln, sc) j).2.2.1), ((k_di tx (k_rp tx) (bx, at0, ln, sc) j).2.2.2)) st).1.2.2.2) 11)]))] := rfl
              refine q_putN (k := 1) (j := 0) (f := 9) C hinX4 tyX4 tyX4_ok nmX4 f167 (fun _ h => h) (by decide) rfl rfl (tyX4_ok 9 (by decide)) rfl rfl dX6_work_112 115 rfl rfl rfl (Nat.le_of_ble_eq_true rfl) [[(h0, .inr (5, [.ref aO, .ref aY, .ref aN, .int hsn, .ref aT, .ref aK]))], [(aO, .inr (3, [.ref aB, .ref aL, .ref aS, .int (((k_dpt tx (((k_di tx (k_rp tx) (bx, at0, ln, sc) j).1), ((k_di tx (k_rp tx) (bx, at0, ln, sc) j).2.1), ((k_di tx (k_rp tx) (bx, at0, ln, sc) j).2.2.1), ((k_di tx (k_rp tx) (bx, at0, ln, sc) j).2.2.2)) st).1.2.2.2) 3), .int (((k_dpt tx (((k_di tx (k_rp tx) (bx, at0, ln, sc) j).1), ((k_di tx (k_rp tx) (bx, at0, ln, sc) j).2.1), ((k_di tx (k_rp tx) (bx, at0, ln, sc) j).2.2.1), ((k_di tx (k_rp tx) (bx, at0, ln, sc) j).2.2.2)) st).1.2.2.2) 5), .int (((k_dpt tx (((k_di tx (k_rp tx) (bx, at0, ln, sc) j).1), ((k_di tx (k_rp tx) (bx, at0, ln, sc) j).2.1), ((k_di tx (k_rp tx) (bx, at0, ln, sc) j).2.2.1), ((k_di tx (k_rp tx) (bx, at0, ln, sc) j).2.2.2)) st).1.2.2.2) 6), .int (((k_dpt tx (((k_di tx (k_rp tx) (bx, at0, ln, sc) j).1), ((k_di tx (k_rp tx) (bx, at0, ln, sc) j).2.1), ((k_di tx (k_rp tx) (bx, at0, ln, sc) j).2.2.1), ((k_di tx (k_rp tx) (bx, at0, ln, sc) j).2.2.2)) st).1.2.2.2) 7), .int (((k_dpt tx (((k_di tx (k_rp tx) (bx, at0, ln, sc) j).1), ((k_di tx (k_rp tx) (bx, at0, ln, sc) j).2.1), ((k_di tx (k_rp tx) (bx, at0, ln, sc) j).2.2.1), ((k_di tx (k_rp tx) (bx, at0, ln, sc) j).2.2.2)) st).1.2.2.2) 8), .int (((k_dpt tx (((k_di tx (k_rp tx) (bx, at0, ln, sc) j).1), ((k_di tx (k_rp tx) (bx, at0, ln, sc) j).2.1), ((k_di tx (k_rp tx) (bx, at0, ln, sc) j).2.2.1), ((k_di tx (k_rp tx) (bx, at0, ln, sc) j).2.2.2)) st).1.2.2.2) 9), .int (nI j), .int (((k_dpt tx (((k_di tx (k_rp tx) (bx, at0, ln, sc) j).1), ((k_di tx (k_rp tx) (bx, at0, ln, sc) j).2.1), ((k_di tx (k_rp tx) (bx, at0, ln, sc) j).2.2.1), ((k_di tx (k_rp tx) (bx, at0, ln, sc) j).2.2.2)) st).1.2.2.2) 11)]))], wA_72, wB_72, wL_72, [(aT, .inr (4, [.ref hcx2, .int (nI tx.length)])), (hcx2, .inl (cI, 60, .inl ftx2))], wH_28] rfl ?_
              refine q_aload_n C dX6_work_115 116 4 rfl rfl ?_
              refine q_get (k := 0) (j := 0) (f := 0) C hinX6 f12 (fun _ h => h) (by decide) rfl dX6_work_116 119 rfl rfl rfl rfl ?_
              refine q_iload_n C dX6_work_119 120 3 rfl rfl ?_
              refine q_if_ne C dX6_work_120 123 127 rfl (by decide) (q_eq0 (by omega)) (fun h120 => ?_) (fun h120 => False.elim (by first | omega | simp_all))
              refine q_iload_n C dX6_work_127 128 3 rfl rfl ?_
              refine q_putN (k := 1) (j := 0) (f := 10) C hinX4 tyX4 tyX4_ok nmX4 f170 (fun _ h => h) (by decide) rfl rfl (tyX4_ok 10 (by decide)) rfl rfl dX6_work_128 131 rfl rfl rfl (Nat.le_of_ble_eq_true rfl) [[(h0, .inr (5, [.ref aO, .ref aY, .ref aN, .int hsn, .ref aT, .ref aK]))], [(aO, .inr (3, [.ref aB, .ref aL, .ref aS, .int (((k_dpt tx (((k_di tx (k_rp tx) (bx, at0, ln, sc) j).1), ((k_di tx (k_rp tx) (bx, at0, ln, sc) j).2.1), ((k_di tx (k_rp tx) (bx, at0, ln, sc) j).2.2.1), ((k_di tx (k_rp tx) (bx, at0, ln, sc) j).2.2.2)) st).1.2.2.2) 3), .int (((k_dpt tx (((k_di tx (k_rp tx) (bx, at0, ln, sc) j).1), ((k_di tx (k_rp tx) (bx, at0, ln, sc) j).2.1), ((k_di tx (k_rp tx) (bx, at0, ln, sc) j).2.2.1), ((k_di tx (k_rp tx) (bx, at0, ln, sc) j).2.2.2)) st).1.2.2.2) 5), .int (((k_dpt tx (((k_di tx (k_rp tx) (bx, at0, ln, sc) j).1), ((k_di tx (k_rp tx) (bx, at0, ln, sc) j).2.1), ((k_di tx (k_rp tx) (bx, at0, ln, sc) j).2.2.1), ((k_di tx (k_rp tx) (bx, at0, ln, sc) j).2.2.2)) st).1.2.2.2) 6), .int (((k_dpt tx (((k_di tx (k_rp tx) (bx, at0, ln, sc) j).1), ((k_di tx (k_rp tx) (bx, at0, ln, sc) j).2.1), ((k_di tx (k_rp tx) (bx, at0, ln, sc) j).2.2.1), ((k_di tx (k_rp tx) (bx, at0, ln, sc) j).2.2.2)) st).1.2.2.2) 7), .int (((k_dpt tx (((k_di tx (k_rp tx) (bx, at0, ln, sc) j).1), ((k_di tx (k_rp tx) (bx, at0, ln, sc) j).2.1), ((k_di tx (k_rp tx) (bx, at0, ln, sc) j).2.2.1), ((k_di tx (k_rp tx) (bx, at0, ln, sc) j).2.2.2)) st).1.2.2.2) 8), .int (((k_dpt tx (((k_di tx (k_rp tx) (bx, at0, ln, sc) j).1), ((k_di tx (k_rp tx) (bx, at0, ln, sc) j).2.1), ((k_di tx (k_rp tx) (bx, at0, ln, sc) j).2.2.1), ((k_di tx (k_rp tx) (bx, at0, ln, sc) j).2.2.2)) st).1.2.2.2) 9), .int (nI j), .int (nI ((k_dy tx (k_rp tx) (bx, at0, ln, sc) j)))]))], wA_72, wB_72, wL_72, [(aT, .inr (4, [.ref hcx2, .int (nI tx.length)])), (hcx2, .inl (cI, 60, .inl ftx2))], wH_28] rfl ?_
              refine q_aload_n C dX6_work_131 132 4 rfl rfl ?_
              refine q_get (k := 0) (j := 0) (f := 4) C hinX6 f33 (fun _ h => h) (by decide) rfl dX6_work_132 135 rfl rfl rfl rfl ?_
              refine q_callV (k := 5) (ci := 4) (n := 0) (rest := []) (Rr := [[(h0, .inr (5, [.ref aO, .ref aY, .ref aN, .int hsn, .ref aT, .ref aK]))], [(aO, .inr (3, [.ref aB, .ref aL, .ref aS, .int (((k_dpt tx (((k_di tx (k_rp tx) (bx, at0, ln, sc) j).1), ((k_di tx (k_rp tx) (bx, at0, ln, sc) j).2.1), ((k_di tx (k_rp tx) (bx, at0, ln, sc) j).2.2.1), ((k_di tx (k_rp tx) (bx, at0, ln, sc) j).2.2.2)) st).1.2.2.2) 3), .int (((k_dpt tx (((k_di tx (k_rp tx) (bx, at0, ln, sc) j).1), ((k_di tx (k_rp tx) (bx, at0, ln, sc) j).2.1), ((k_di tx (k_rp tx) (bx, at0, ln, sc) j).2.2.1), ((k_di tx (k_rp tx) (bx, at0, ln, sc) j).2.2.2)) st).1.2.2.2) 5), .int (((k_dpt tx (((k_di tx (k_rp tx) (bx, at0, ln, sc) j).1), ((k_di tx (k_rp tx) (bx, at0, ln, sc) j).2.1), ((k_di tx (k_rp tx) (bx, at0, ln, sc) j).2.2.1), ((k_di tx (k_rp tx) (bx, at0, ln, sc) j).2.2.2)) st).1.2.2.2) 6), .int (((k_dpt tx (((k_di tx (k_rp tx) (bx, at0, ln, sc) j).1), ((k_di tx (k_rp tx) (bx, at0, ln, sc) j).2.1), ((k_di tx (k_rp tx) (bx, at0, ln, sc) j).2.2.1), ((k_di tx (k_rp tx) (bx, at0, ln, sc) j).2.2.2)) st).1.2.2.2) 7), .int (((k_dpt tx (((k_di tx (k_rp tx) (bx, at0, ln, sc) j).1), ((k_di tx (k_rp tx) (bx, at0, ln, sc) j).2.1), ((k_di tx (k_rp tx) (bx, at0, ln, sc) j).2.2.1), ((k_di tx (k_rp tx) (bx, at0, ln, sc) j).2.2.2)) st).1.2.2.2) 8), .int (((k_dpt tx (((k_di tx (k_rp tx) (bx, at0, ln, sc) j).1), ((k_di tx (k_rp tx) (bx, at0, ln, sc) j).2.1), ((k_di tx (k_rp tx) (bx, at0, ln, sc) j).2.2.1), ((k_di tx (k_rp tx) (bx, at0, ln, sc) j).2.2.2)) st).1.2.2.2) 9), .int (nI j), .int (nI ((k_dy tx (k_rp tx) (bx, at0, ln, sc) j)))]))], wA_72, wB_72, wL_72, wH_28]) C rfl (k_isT_recv hTox2) rfl (c_X5_clear l hZ hI aT tx ([(aT, .inr (4, [.ref hcx2, .int (nI tx.length)])), (hcx2, .inl (cI, 60, .inl ftx2))]) hTox2) gX6_work_X5_clear rfl rfl rfl (by decide +kernel) B.1 ⟨Nat.le_of_ble_eq_true rfl, Nat.le_of_ble_eq_true rfl⟩ rfl rfl (Nat.le_of_ble_eq_true rfl) dX6_work_135 ⟨(Nat.le_of_ble_eq_true rfl), (Nat.le_of_ble_eq_true rfl)⟩ [5] [0, 1, 2, 3, 4, 6] (by decide : ([5] ++ ([0, 1, 2, 3, 4, 6] : List Nat)).Perm (List.range 7)) rfl rfl 138 rfl (fun v0 R0 t0 ht0 hp0 => ?_)
              obtain ⟨rfl, w_135, hw_135, rfl⟩ := hp0
              refine q_eqs (st' := []) rfl ?_
              refine q_reord [1, 2, 3, 4, 5, 0, 6] (by decide : ([1, 2, 3, 4, 5, 0, 6] : List Nat).Perm (List.range 7)) (Rs' := [[(h0, .inr (5, [.ref aO, .ref aY, .ref aN, .int hsn, .ref aT, .ref aK]))], [(aO, .inr (3, [.ref aB, .ref aL, .ref aS, .int (((k_dpt tx (((k_di tx (k_rp tx) (bx, at0, ln, sc) j).1), ((k_di tx (k_rp tx) (bx, at0, ln, sc) j).2.1), ((k_di tx (k_rp tx) (bx, at0, ln, sc) j).2.2.1), ((k_di tx (k_rp tx) (bx, at0, ln, sc) j).2.2.2)) st).1.2.2.2) 3), .int (((k_dpt tx (((k_di tx (k_rp tx) (bx, at0, ln, sc) j).1), ((k_di tx (k_rp tx) (bx, at0, ln, sc) j).2.1), ((k_di tx (k_rp tx) (bx, at0, ln, sc) j).2.2.1), ((k_di tx (k_rp tx) (bx, at0, ln, sc) j).2.2.2)) st).1.2.2.2) 5), .int (((k_dpt tx (((k_di tx (k_rp tx) (bx, at0, ln, sc) j).1), ((k_di tx (k_rp tx) (bx, at0, ln, sc) j).2.1), ((k_di tx (k_rp tx) (bx, at0, ln, sc) j).2.2.1), ((k_di tx (k_rp tx) (bx, at0, ln, sc) j).2.2.2)) st).1.2.2.2) 6), .int (((k_dpt tx (((k_di tx (k_rp tx) (bx, at0, ln, sc) j).1), ((k_di tx (k_rp tx) (bx, at0, ln, sc) j).2.1), ((k_di tx (k_rp tx) (bx, at0, ln, sc) j).2.2.1), ((k_di tx (k_rp tx) (bx, at0, ln, sc) j).2.2.2)) st).1.2.2.2) 7), .int (((k_dpt tx (((k_di tx (k_rp tx) (bx, at0, ln, sc) j).1), ((k_di tx (k_rp tx) (bx, at0, ln, sc) j).2.1), ((k_di tx (k_rp tx) (bx, at0, ln, sc) j).2.2.1), ((k_di tx (k_rp tx) (bx, at0, ln, sc) j).2.2.2)) st).1.2.2.2) 8), .int (((k_dpt tx (((k_di tx (k_rp tx) (bx, at0, ln, sc) j).1), ((k_di tx (k_rp tx) (bx, at0, ln, sc) j).2.1), ((k_di tx (k_rp tx) (bx, at0, ln, sc) j).2.2.1), ((k_di tx (k_rp tx) (bx, at0, ln, sc) j).2.2.2)) st).1.2.2.2) 9), .int (nI j), .int (nI ((k_dy tx (k_rp tx) (bx, at0, ln, sc) j)))]))], wA_72, wB_72, wL_72, w_135, wH_28]) rfl rfl ?_
              refine q_iload_n C dX6_work_138 139 2 rfl rfl ?_
              have hOf139 : k_isO cI aO aB aL aS (upd (upd ((k_dpt tx (((k_di tx (k_rp tx) (bx, at0, ln, sc) j).1), ((k_di tx (k_rp tx) (bx, at0, ln, sc) j).2.1), ((k_di tx (k_rp tx) (bx, at0, ln, sc) j).2.2.1), ((k_di tx (k_rp tx) (bx, at0, ln, sc) j).2.2.2)) st).1.2.2.2) 10 (nI j)) 11 (nI ((k_dy tx (k_rp tx) (bx, at0, ln, sc) j)))) [(aO, .inr (3, [.ref aB, .ref aL, .ref aS, .int (((k_dpt tx (((k_di tx (k_rp tx) (bx, at0, ln, sc) j).1), ((k_di tx (k_rp tx) (bx, at0, ln, sc) j).2.1), ((k_di tx (k_rp tx) (bx, at0, ln, sc) j).2.2.1), ((k_di tx (k_rp tx) (bx, at0, ln, sc) j).2.2.2)) st).1.2.2.2) 3), .int (((k_dpt tx (((k_di tx (k_rp tx) (bx, at0, ln, sc) j).1), ((k_di tx (k_rp tx) (bx, at0, ln, sc) j).2.1), ((k_di tx (k_rp tx) (bx, at0, ln, sc) j).2.2.1), ((k_di tx (k_rp tx) (bx, at0, ln, sc) j).2.2.2)) st).1.2.2.2) 5), .int (((k_dpt tx (((k_di tx (k_rp tx) (bx, at0, ln, sc) j).1), ((k_di tx (k_rp tx) (bx, at0, ln, sc) j).2.1), ((k_di tx (k_rp tx) (bx, at0, ln, sc) j).2.2.1), ((k_di tx (k_rp tx) (bx, at0, ln, sc) j).2.2.2)) st).1.2.2.2) 6), .int (((k_dpt tx (((k_di tx (k_rp tx) (bx, at0, ln, sc) j).1), ((k_di tx (k_rp tx) (bx, at0, ln, sc) j).2.1), ((k_di tx (k_rp tx) (bx, at0, ln, sc) j).2.2.1), ((k_di tx (k_rp tx) (bx, at0, ln, sc) j).2.2.2)) st).1.2.2.2) 7), .int (((k_dpt tx (((k_di tx (k_rp tx) (bx, at0, ln, sc) j).1), ((k_di tx (k_rp tx) (bx, at0, ln, sc) j).2.1), ((k_di tx (k_rp tx) (bx, at0, ln, sc) j).2.2.1), ((k_di tx (k_rp tx) (bx, at0, ln, sc) j).2.2.2)) st).1.2.2.2) 8), .int (((k_dpt tx (((k_di tx (k_rp tx) (bx, at0, ln, sc) j).1), ((k_di tx (k_rp tx) (bx, at0, ln, sc) j).2.1), ((k_di tx (k_rp tx) (bx, at0, ln, sc) j).2.2.1), ((k_di tx (k_rp tx) (bx, at0, ln, sc) j).2.2.2)) st).1.2.2.2) 9), .int (nI j), .int (nI ((k_dy tx (k_rp tx) (bx, at0, ln, sc) j)))]))] := rfl
              have hAf139 : k_isA cI aS (upd (upd ((k_dpt tx (((k_di tx (k_rp tx) (bx, at0, ln, sc) j).1), ((k_di tx (k_rp tx) (bx, at0, ln, sc) j).2.1), ((k_di tx (k_rp tx) (bx, at0, ln, sc) j).2.2.1), ((k_di tx (k_rp tx) (bx, at0, ln, sc) j).2.2.2)) st).1.2.2.2) 10 (nI j)) 11 (nI ((k_dy tx (k_rp tx) (bx, at0, ln, sc) j)))) wA_72 := k_isA_upd (k_isA_upd hwA_72 (by decide)) (by decide)
              obtain ⟨hdn, hwks⟩ := k_wks_B (tx := tx) (S := (bx, at0, ln, sc)) (j := j) hjl hdy hu
              exact q_iret C B dX6_work_139 rfl rfl (fun t0 ht0 => ⟨by rw [hdn], _, by rw [hwks, k_di_s, hat]; exact hOf139, _, by rw [hwks, k_di_s, hat]; exact hAf139, _, by rw [hwks, k_di_s, hat]; exact hwB_72, _, by rw [hwks, k_di_s, hat]; exact hwL_72, _, hw_135, _, hwH_28, by first | rfl | simp⟩)
  refine q_sub (L' := [(4, .int (nI 0)), (3, .int (nI 0)), (2, .int (nI 0)), (1, .int (nI 0)), (0, .ref h0)]) [0, 1, 2, 3, 4] rfl ?_
  exact lp _ 0 60 0 0 ([]) wO wA wB wL (Nat.lt_succ_self _) (by omega) (by omega) (k_Wk_0 hwh) (fun u hu => absurd hu (Nat.not_lt_zero u)) hO hA hB hL

set_option maxHeartbeats 400000 in
set_option maxRecDepth 100000 in
theorem c_X6_init (l : Launch) {D : va_G} {tys : List (ClassId × FieldType)} {Z : (Nat → Prop) → State → Heap → Prop} (hZ : q_St Z) {cI : ClassId} (hI : tys[0]? = some (cI, .int)) (hN : q_Ns Z) {cG : ClassId} (hG : tys[1]? = some (cG, .object "SortCases$State")) (hAO : q_Na Z) (h0 : Nat) (w : va_W) (h : k_i9 cI h0 w) : q_Ct l D tys Z yX6_init wsX6_init ({ frames := 5, cells := 71, slots := 3654, locals := 162 } : Room) 71 3654 [.ref h0] [w] (fun v0 R0 _ => v0 = none ∧ ∃ aO aY aN aT aK wX wS wH wN wT wK, k_isX cI h0 aO aY aN (nI 0) aT aK wX ∧ k_isS cI aO k_S0 wS ∧ k_isH cG cI aY [] wH ∧ k_isS cI aN k_S0 wN ∧ k_isT cI aT [] wT ∧ k_isB cI aK (k_bi 12 0) 0 wK ∧ R0 = [wX, wS, wH, wN, wT, wK]) := by
  have hcI := hI
  have hcG := hG
  refine q_ct (cc := cX6_init) (maxL := 1) (ret := none) (own := RX6) (by decide) rfl hZ (Nat.le_of_ble_eq_true rfl) rfl ?_
  intro p9 e9 R s9 m9 args below meth c9 A Q C B
  have hts := C.2.2.2.2.1
  have oi1 := hts (.methodLink RX6 3 objectInit) (by decide +kernel)
  have oi2 := hts (.instanceMethod objectInit) (by decide +kernel)
  have oi3 := hts (.code objectInit ⟨#[0xb1]⟩ 1 none) (by decide +kernel)
  have hinX4 : ∀ w ∈ u_ws RX4 TX4 11, w ∈ wsX6_init := by decide +kernel
  have cl9 := hts (.classLink RX6 9 RX4) (by decide +kernel)
  have instX4 := hts (.instantiable RX4 11) (by decide +kernel)
  have iniX4 := hts (.initialized RX4) (by decide +kernel)
  have nst_X4_init := q_nst hN C (by decide +kernel : Cond.methodLinkNest "SortCases" 11 yX4_init "SortCases" ∈ q_nest)
  have ins_X4_init := hts (.instanceMethod yX4_init) (by decide +kernel)
  have hinX6 : ∀ w ∈ u_ws RX6 TX6 6, w ∈ wsX6_init := by decide +kernel
  have f12 := hts (.fieldLink RX6 12 "SortCases" "state" "LSortCases$State;") (by decide +kernel)
  have hinX1 : ∀ w ∈ u_ws RX1 TX1 3, w ∈ wsX6_init := by decide +kernel
  have cl16 := hts (.classLink RX6 16 RX1) (by decide +kernel)
  have instX1 := hts (.instantiable RX1 3) (by decide +kernel)
  have iniX1 := hts (.initialized RX1) (by decide +kernel)
  have mlk_X1_init := hts (.methodLink RX6 18 yX1_init) (by decide +kernel)
  have ins_X1_init := hts (.instanceMethod yX1_init) (by decide +kernel)
  have f19 := hts (.fieldLink RX6 19 "SortCases" "history" "LSortCases$History;") (by decide +kernel)
  have f23 := hts (.fieldLink RX6 23 "SortCases" "snapshot" "LSortCases$State;") (by decide +kernel)
  have f26 := hts (.fieldLink RX6 26 "SortCases" "hasSnapshot" "Z") (by decide +kernel)
  have hinX5 : ∀ w ∈ u_ws RX5 TX5 2, w ∈ wsX6_init := by decide +kernel
  have cl30 := hts (.classLink RX6 30 RX5) (by decide +kernel)
  have instX5 := hts (.instantiable RX5 2) (by decide +kernel)
  have iniX5 := hts (.initialized RX5) (by decide +kernel)
  have nst_X5_init := q_nst hN C (by decide +kernel : Cond.methodLinkNest "SortCases" 32 yX5_init "SortCases" ∈ q_nest)
  have ins_X5_init := hts (.instanceMethod yX5_init) (by decide +kernel)
  have f33 := hts (.fieldLink RX6 33 "SortCases" "text" "LSortCases$Text;") (by decide +kernel)
  have hinX0 : ∀ w ∈ u_ws RX0 TX0 3, w ∈ wsX6_init := by decide +kernel
  have cl37 := hts (.classLink RX6 37 RX0) (by decide +kernel)
  have instX0 := hts (.instantiable RX0 3) (by decide +kernel)
  have iniX0 := hts (.initialized RX0) (by decide +kernel)
  have mlk_X0_init := hts (.methodLink RX6 39 yX0_init) (by decide +kernel)
  have ins_X0_init := hts (.instanceMethod yX0_init) (by decide +kernel)
  have f40 := hts (.fieldLink RX6 40 "SortCases" "trial" "LSortCases$Boxes;") (by decide +kernel)
  refine q_eqL (L' := [(0, .ref h0)]) rfl ?_
  obtain rfl := h
  refine q_aload_n C dX6_init_0 1 0 rfl rfl ?_
  refine q_objInit C oi1 oi2 oi3 B.1 (Nat.le_of_ble_eq_true rfl) (Nat.le_of_ble_eq_true rfl) dX6_init_1 4 rfl ?_
  refine q_aload_n C dX6_init_4 5 0 rfl rfl ?_
  refine q_new (ci := 3) (fs := [.null, .null, .null, .int 0, .int 0, .int 0, .int 0, .int 0, .int 0, .int 0, .int 0]) C hinX4 tyX4 tyX4_ok cl9 instX4 iniX4 rfl (by intro j hj; match j, hj with | 0, _ => rfl | 1, _ => rfl | 2, _ => rfl | 3, _ => rfl | 4, _ => rfl | 5, _ => rfl | 6, _ => rfl | 7, _ => rfl | 8, _ => rfl | 9, _ => rfl | 10, _ => rfl) B.1 (Nat.le_of_ble_eq_true rfl) (Nat.le_of_ble_eq_true rfl) dX6_init_5 8 rfl (fun q5 => ?_)
  have hn5 : k_i4 cI q5 [(q5, .inr (3, [.null, .null, .null, .int 0, .int 0, .int 0, .int 0, .int 0, .int 0, .int 0, .int 0]))] := rfl
  refine q_dup C dX6_init_8 9 rfl rfl ?_
  refine q_callIN (n := 0) (rest := [.ref q5, .ref h0]) (Rr := [[(h0, .inr (5, [.null, .null, .null, .int 0, .null, .null]))]]) C (c_X4_init_s l hZ hI hN q5 ([(q5, .inr (3, [.null, .null, .null, .int 0, .int 0, .int 0, .int 0, .int 0, .int 0, .int 0, .int 0]))]) hn5) gX6_init_X4_init_n11 rfl rfl rfl nst_X4_init iniX4 rfl (ins_X4_init) (by decide +kernel) B.1 ⟨Nat.le_of_ble_eq_true rfl, Nat.le_of_ble_eq_true rfl⟩ rfl rfl (Nat.le_of_ble_eq_true rfl) dX6_init_9 ⟨(Nat.le_of_ble_eq_true rfl), (Nat.le_of_ble_eq_true rfl)⟩ [1] [0] (by decide : ([1] ++ ([0] : List Nat)).Perm (List.range 2)) rfl rfl 12 rfl (fun v0 R0 t0 ht0 hp0 => ?_)
  obtain ⟨rfl, wn9, hwn9, rfl⟩ := hp0
  refine q_eqs (st' := [.ref q5, .ref h0]) rfl ?_
  refine q_reord [1, 0] (by decide : ([1, 0] : List Nat).Perm (List.range 2)) (Rs' := [[(h0, .inr (5, [.null, .null, .null, .int 0, .null, .null]))], wn9]) rfl rfl ?_
  refine q_putF (k := 0) (j := 0) (f := 0) C hinX6 tyX6 tyX6_ok nmX6 f12 (fun _ h => h) (by decide) rfl rfl B.2.2.2.2.2 rfl (tyX6_ok 0 (by decide)) rfl rfl dX6_init_12 15 rfl rfl rfl (Nat.le_of_ble_eq_true rfl) [[(h0, .inr (5, [.ref q5, .null, .null, .int 0, .null, .null]))], wn9] rfl ?_
  refine q_aload_n C dX6_init_15 16 0 rfl rfl ?_
  refine q_new (ci := 1) (fs := [.null, .int 0, .int 0]) C hinX1 tyX1 tyX1_ok cl16 instX1 iniX1 rfl (by intro j hj; match j, hj with | 0, _ => rfl | 1, _ => rfl | 2, _ => rfl) B.1 (Nat.le_of_ble_eq_true rfl) (Nat.le_of_ble_eq_true rfl) dX6_init_16 19 rfl (fun q16 => ?_)
  have hn16 : k_i1 cI q16 [(q16, .inr (1, [.null, .int 0, .int 0]))] := rfl
  refine q_dup C dX6_init_19 20 rfl rfl ?_
  refine q_callI (n := 0) (rest := [.ref q16, .ref h0]) (Rr := [[(h0, .inr (5, [.ref q5, .null, .null, .int 0, .null, .null]))], wn9]) C (c_X1_init l hZ hI hN hG hAO q16 ([(q16, .inr (1, [.null, .int 0, .int 0]))]) hn16) gX6_init_X1_init rfl rfl rfl iniX1 mlk_X1_init (ins_X1_init) rfl (by decide +kernel) B.1 ⟨Nat.le_of_ble_eq_true rfl, Nat.le_of_ble_eq_true rfl⟩ rfl rfl (Nat.le_of_ble_eq_true rfl) dX6_init_20 ⟨(Nat.le_of_ble_eq_true rfl), (Nat.le_of_ble_eq_true rfl)⟩ [2] [0, 1] (by decide : ([2] ++ ([0, 1] : List Nat)).Perm (List.range 3)) rfl rfl 23 rfl (fun v0 R0 t0 ht0 hp0 => ?_)
  obtain ⟨rfl, wn20, hwn20, rfl⟩ := hp0
  refine q_eqs (st' := [.ref q16, .ref h0]) rfl ?_
  refine q_reord [1, 2, 0] (by decide : ([1, 2, 0] : List Nat).Perm (List.range 3)) (Rs' := [[(h0, .inr (5, [.ref q5, .null, .null, .int 0, .null, .null]))], wn9, wn20]) rfl rfl ?_
  refine q_putF (k := 0) (j := 0) (f := 1) C hinX6 tyX6 tyX6_ok nmX6 f19 (fun _ h => h) (by decide) rfl rfl B.2.2.2.2.2 rfl (tyX6_ok 1 (by decide)) rfl rfl dX6_init_23 26 rfl rfl rfl (Nat.le_of_ble_eq_true rfl) [[(h0, .inr (5, [.ref q5, .ref q16, .null, .int 0, .null, .null]))], wn9, wn20] rfl ?_
  refine q_aload_n C dX6_init_26 27 0 rfl rfl ?_
  refine q_new (ci := 3) (fs := [.null, .null, .null, .int 0, .int 0, .int 0, .int 0, .int 0, .int 0, .int 0, .int 0]) C hinX4 tyX4 tyX4_ok cl9 instX4 iniX4 rfl (by intro j hj; match j, hj with | 0, _ => rfl | 1, _ => rfl | 2, _ => rfl | 3, _ => rfl | 4, _ => rfl | 5, _ => rfl | 6, _ => rfl | 7, _ => rfl | 8, _ => rfl | 9, _ => rfl | 10, _ => rfl) B.1 (Nat.le_of_ble_eq_true rfl) (Nat.le_of_ble_eq_true rfl) dX6_init_27 30 rfl (fun q27 => ?_)
  have hn27 : k_i4 cI q27 [(q27, .inr (3, [.null, .null, .null, .int 0, .int 0, .int 0, .int 0, .int 0, .int 0, .int 0, .int 0]))] := rfl
  refine q_dup C dX6_init_30 31 rfl rfl ?_
  refine q_callIN (n := 0) (rest := [.ref q27, .ref h0]) (Rr := [[(h0, .inr (5, [.ref q5, .ref q16, .null, .int 0, .null, .null]))], wn9, wn20]) C (c_X4_init_s l hZ hI hN q27 ([(q27, .inr (3, [.null, .null, .null, .int 0, .int 0, .int 0, .int 0, .int 0, .int 0, .int 0, .int 0]))]) hn27) gX6_init_X4_init_n11 rfl rfl rfl nst_X4_init iniX4 rfl (ins_X4_init) (by decide +kernel) B.1 ⟨Nat.le_of_ble_eq_true rfl, Nat.le_of_ble_eq_true rfl⟩ rfl rfl (Nat.le_of_ble_eq_true rfl) dX6_init_31 ⟨(Nat.le_of_ble_eq_true rfl), (Nat.le_of_ble_eq_true rfl)⟩ [3] [0, 1, 2] (by decide : ([3] ++ ([0, 1, 2] : List Nat)).Perm (List.range 4)) rfl rfl 34 rfl (fun v0 R0 t0 ht0 hp0 => ?_)
  obtain ⟨rfl, wn31, hwn31, rfl⟩ := hp0
  refine q_eqs (st' := [.ref q27, .ref h0]) rfl ?_
  refine q_reord [1, 2, 3, 0] (by decide : ([1, 2, 3, 0] : List Nat).Perm (List.range 4)) (Rs' := [[(h0, .inr (5, [.ref q5, .ref q16, .null, .int 0, .null, .null]))], wn9, wn20, wn31]) rfl rfl ?_
  refine q_putF (k := 0) (j := 0) (f := 2) C hinX6 tyX6 tyX6_ok nmX6 f23 (fun _ h => h) (by decide) rfl rfl B.2.2.2.2.2 rfl (tyX6_ok 2 (by decide)) rfl rfl dX6_init_34 37 rfl rfl rfl (Nat.le_of_ble_eq_true rfl) [[(h0, .inr (5, [.ref q5, .ref q16, .ref q27, .int 0, .null, .null]))], wn9, wn20, wn31] rfl ?_
  refine q_aload_n C dX6_init_37 38 0 rfl rfl ?_
  refine q_iconst (v := nI 0) C dX6_init_38 39 rfl (by decide) ?_
  refine q_put (k := 0) (j := 0) (f := 3) C hinX6 tyX6 tyX6_ok nmX6 f26 (fun _ h => h) (by decide) rfl rfl (tyX6_ok 3 (by decide)) rfl rfl dX6_init_39 42 rfl rfl rfl (Nat.le_of_ble_eq_true rfl) [[(h0, .inr (5, [.ref q5, .ref q16, .ref q27, .int (nI 0), .null, .null]))], wn9, wn20, wn31] rfl ?_
  refine q_aload_n C dX6_init_42 43 0 rfl rfl ?_
  refine q_new (ci := 4) (fs := [.null, .int 0]) C hinX5 tyX5 tyX5_ok cl30 instX5 iniX5 rfl (by intro j hj; match j, hj with | 0, _ => rfl | 1, _ => rfl) B.1 (Nat.le_of_ble_eq_true rfl) (Nat.le_of_ble_eq_true rfl) dX6_init_43 46 rfl (fun q43 => ?_)
  have hn43 : k_i5 cI q43 [(q43, .inr (4, [.null, .int 0]))] := rfl
  refine q_dup C dX6_init_46 47 rfl rfl ?_
  refine q_callIN (n := 0) (rest := [.ref q43, .ref h0]) (Rr := [[(h0, .inr (5, [.ref q5, .ref q16, .ref q27, .int (nI 0), .null, .null]))], wn9, wn20, wn31]) C (c_X5_init l hZ hI q43 ([(q43, .inr (4, [.null, .int 0]))]) hn43) gX6_init_X5_init_n32 rfl rfl rfl nst_X5_init iniX5 rfl (ins_X5_init) (by decide +kernel) B.1 ⟨Nat.le_of_ble_eq_true rfl, Nat.le_of_ble_eq_true rfl⟩ rfl rfl (Nat.le_of_ble_eq_true rfl) dX6_init_47 ⟨(Nat.le_of_ble_eq_true rfl), (Nat.le_of_ble_eq_true rfl)⟩ [4] [0, 1, 2, 3] (by decide : ([4] ++ ([0, 1, 2, 3] : List Nat)).Perm (List.range 5)) rfl rfl 50 rfl (fun v0 R0 t0 ht0 hp0 => ?_)
  obtain ⟨rfl, wn47, hwn47, rfl⟩ := hp0
  refine q_eqs (st' := [.ref q43, .ref h0]) rfl ?_
  refine q_reord [1, 2, 3, 4, 0] (by decide : ([1, 2, 3, 4, 0] : List Nat).Perm (List.range 5)) (Rs' := [[(h0, .inr (5, [.ref q5, .ref q16, .ref q27, .int (nI 0), .null, .null]))], wn9, wn20, wn31, wn47]) rfl rfl ?_
  refine q_putF (k := 0) (j := 0) (f := 4) C hinX6 tyX6 tyX6_ok nmX6 f33 (fun _ h => h) (by decide) rfl rfl B.2.2.2.2.2 rfl (tyX6_ok 4 (by decide)) rfl rfl dX6_init_50 53 rfl rfl rfl (Nat.le_of_ble_eq_true rfl) [[(h0, .inr (5, [.ref q5, .ref q16, .ref q27, .int (nI 0), .ref q43, .null]))], wn9, wn20, wn31, wn47] rfl ?_
  refine q_aload_n C dX6_init_53 54 0 rfl rfl ?_
  refine q_new (ci := 0) (fs := [.null, .null, .int 0]) C hinX0 tyX0 tyX0_ok cl37 instX0 iniX0 rfl (by intro j hj; match j, hj with | 0, _ => rfl | 1, _ => rfl | 2, _ => rfl) B.1 (Nat.le_of_ble_eq_true rfl) (Nat.le_of_ble_eq_true rfl) dX6_init_54 57 rfl (fun q54 => ?_)
  have hn54 : k_i0 cI q54 [(q54, .inr (0, [.null, .null, .int 0]))] := rfl
  refine q_dup C dX6_init_57 58 rfl rfl ?_
  refine q_callI (n := 0) (rest := [.ref q54, .ref h0]) (Rr := [[(h0, .inr (5, [.ref q5, .ref q16, .ref q27, .int (nI 0), .ref q43, .null]))], wn9, wn20, wn31, wn47]) C (c_X0_init l hZ hI q54 ([(q54, .inr (0, [.null, .null, .int 0]))]) hn54) gX6_init_X0_init rfl rfl rfl iniX0 mlk_X0_init (ins_X0_init) rfl (by decide +kernel) B.1 ⟨Nat.le_of_ble_eq_true rfl, Nat.le_of_ble_eq_true rfl⟩ rfl rfl (Nat.le_of_ble_eq_true rfl) dX6_init_58 ⟨(Nat.le_of_ble_eq_true rfl), (Nat.le_of_ble_eq_true rfl)⟩ [5] [0, 1, 2, 3, 4] (by decide : ([5] ++ ([0, 1, 2, 3, 4] : List Nat)).Perm (List.range 6)) rfl rfl 61 rfl (fun v0 R0 t0 ht0 hp0 => ?_)
  obtain ⟨rfl, wn58, hwn58, rfl⟩ := hp0
  refine q_eqs (st' := [.ref q54, .ref h0]) rfl ?_
  refine q_reord [1, 2, 3, 4, 5, 0] (by decide : ([1, 2, 3, 4, 5, 0] : List Nat).Perm (List.range 6)) (Rs' := [[(h0, .inr (5, [.ref q5, .ref q16, .ref q27, .int (nI 0), .ref q43, .null]))], wn9, wn20, wn31, wn47, wn58]) rfl rfl ?_
  refine q_putF (k := 0) (j := 0) (f := 5) C hinX6 tyX6 tyX6_ok nmX6 f40 (fun _ h => h) (by decide) rfl rfl B.2.2.2.2.2 rfl (tyX6_ok 5 (by decide)) rfl rfl dX6_init_61 64 rfl rfl rfl (Nat.le_of_ble_eq_true rfl) [[(h0, .inr (5, [.ref q5, .ref q16, .ref q27, .int (nI 0), .ref q43, .ref q54]))], wn9, wn20, wn31, wn47, wn58] rfl ?_
  exact q_vret C B dX6_init_64 rfl rfl (fun t0 ht0 => ⟨rfl, _, _, _, _, _, _, _, _, _, _, _, rfl, hwn9, hwn20, hwn31, hwn47, hwn58, rfl⟩)
