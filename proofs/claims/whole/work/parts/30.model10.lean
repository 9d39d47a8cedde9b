set_option maxHeartbeats 400000 in
set_option maxRecDepth 100000 in
theorem c_X7_reads (l : Launch) {D : va_G} {tys : List (ClassId × FieldType)} {Z : (Nat → Prop) → State → Heap → Prop} (hZ : q_St Z) {cI : ClassId} (hI : tys[0]? = some (cI, .int)) (h0 : Nat) (aS : Nat) (aZ : Nat) (aV : Nat) (aN : Nat) (aU : Nat) (aD : Nat) (fd : Nat → Int32) (hh : Int64) (wP : va_W) (hP : k_isP cI h0 aS aZ aV aN aU aD fd hh wP) (tx : List Nat) (wU : va_W) (hU : k_isU cI aU tx wU) (dx : List Nat) (ps : List Nat) (wD : va_W) (hD : k_isD cI aD dx ps wD) (q8 : fd 8 = nI tx.length) : q_Ct l D tys Z yX7_reads wsX7_reads ({ frames := 7, cells := 0, slots := 0, locals := 222 } : Room) 0 0 [.ref h0] [wP, wU, wD] (fun v0 R0 _ => v0 = some (.int (q_b ((k_rd tx).2))) ∧ ∃ wP', k_isP cI h0 aS aZ aV aN aU aD (upd (upd (upd fd 10 (q_b (k_rd tx).2)) 9 (nI (k_rd tx).1)) 12 (nI (k_rp tx).length)) hh wP' ∧ ∃ wD', k_isD cI aD tx (k_rp tx) wD' ∧ R0 = [wP', wU, wD']) := by
  have hcI := hI
  refine q_ct (cc := cX7_reads) (maxL := 1) (ret := (some .boolean)) (own := RX7) (by decide) rfl hZ (Nat.le_of_ble_eq_true rfl) rfl ?_
  intro p9 e9 R s9 m9 args below meth c9 A Q C B
  have hts := C.2.2.2.2.1
  have hinX7 : ∀ w ∈ u_ws RX7 TX7 16, w ∈ wsX7_reads := by decide +kernel
  have f132 := hts (.fieldLink RX7 132 "SortCasesModel" "at" "I") (by decide +kernel)
  have f153 := hts (.fieldLink RX7 153 "SortCasesModel" "readMany" "I") (by decide +kernel)
  have f135 := hts (.fieldLink RX7 135 "SortCasesModel" "isWell" "Z") (by decide +kernel)
  have f129 := hts (.fieldLink RX7 129 "SortCasesModel" "length" "I") (by decide +kernel)
  refine q_eqL (L' := [(0, .ref h0)]) rfl ?_
  have htl := hU.1.1
  refine q_aload_n C dX7_reads_0 1 0 rfl rfl ?_
  refine q_iconst (v := nI 0) C dX7_reads_1 2 rfl (by decide) ?_
  obtain rfl := hP
  have hPo1 : k_isP cI h0 aS aZ aV aN aU aD fd hh [(h0, .inr (6, [.int (fd 0), .ref aS, .ref aZ, .ref aV, .int (fd 4), .ref aN, .int (fd 6), .ref aU, .int (fd 8), .int (fd 9), .int (fd 10), .ref aD, .int (fd 12), .int (fd 13), .int (fd 14), .long hh]))] := rfl
  refine q_put (k := 0) (j := 0) (f := 9) C hinX7 tyX7 tyX7_ok nmX7 f132 (fun _ h => h) (by decide) rfl rfl (tyX7_ok 9 (by decide)) rfl rfl dX7_reads_2 5 rfl rfl rfl (Nat.le_of_ble_eq_true rfl) [[(h0, .inr (6, [.int (fd 0), .ref aS, .ref aZ, .ref aV, .int (fd 4), .ref aN, .int (fd 6), .ref aU, .int (fd 8), .int (nI 0), .int (fd 10), .ref aD, .int (fd 12), .int (fd 13), .int (fd 14), .long hh]))], wU, wD] rfl ?_
  have hPp2 : k_isP cI h0 aS aZ aV aN aU aD (upd fd 9 (nI 0)) hh [(h0, .inr (6, [.int (fd 0), .ref aS, .ref aZ, .ref aV, .int (fd 4), .ref aN, .int (fd 6), .ref aU, .int (fd 8), .int (nI 0), .int (fd 10), .ref aD, .int (fd 12), .int (fd 13), .int (fd 14), .long hh]))] := rfl
  refine q_aload_n C dX7_reads_5 6 0 rfl rfl ?_
  refine q_iconst (v := nI 0) C dX7_reads_6 7 rfl (by decide) ?_
  refine q_put (k := 0) (j := 0) (f := 12) C hinX7 tyX7 tyX7_ok nmX7 f153 (fun _ h => h) (by decide) rfl rfl (tyX7_ok 12 (by decide)) rfl rfl dX7_reads_7 10 rfl rfl rfl (Nat.le_of_ble_eq_true rfl) [[(h0, .inr (6, [.int (fd 0), .ref aS, .ref aZ, .ref aV, .int (fd 4), .ref aN, .int (fd 6), .ref aU, .int (fd 8), .int (nI 0), .int (fd 10), .ref aD, .int (nI 0), .int (fd 13), .int (fd 14), .long hh]))], wU, wD] rfl ?_
  have hPp3 : k_isP cI h0 aS aZ aV aN aU aD (upd (upd fd 9 (nI 0)) 12 (nI 0)) hh [(h0, .inr (6, [.int (fd 0), .ref aS, .ref aZ, .ref aV, .int (fd 4), .ref aN, .int (fd 6), .ref aU, .int (fd 8), .int (nI 0), .int (fd 10), .ref aD, .int (nI 0), .int (fd 13), .int (fd 14), .long hh]))] := rfl
  refine q_aload_n C dX7_reads_10 11 0 rfl rfl ?_
  have hD01 : k_isD cI aD tx [] wD := by obtain ⟨f, hf, e⟩ := hD; exact ⟨f, fun j hj => absurd hj (Nat.not_lt_zero j), e⟩
  refine q_callV (k := 0) (ci := 6) (n := 0) (rest := []) (Rr := []) C rfl (k_isP_recv hPp3) rfl (c_X7_readsPart l hZ hI h0 aS aZ aV aN aU aD (upd (upd fd 9 (nI 0)) 12 (nI 0)) hh ([(h0, .inr (6, [.int (fd 0), .ref aS, .ref aZ, .ref aV, .int (fd 4), .ref aN, .int (fd 6), .ref aU, .int (fd 8), .int (nI 0), .int (fd 10), .ref aD, .int (nI 0), .int (fd 13), .int (fd 14), .long hh]))]) hPp3 tx wU hU tx ([]) wD hD01 0 (by first | exact q8 | rfl) (by first | exact q9 | rfl) rfl rfl (by show 5 * 0 ≤ 0; omega) (by omega)) gX7_reads_X7_readsPart rfl rfl rfl (by decide +kernel) B.1 ⟨Nat.le_of_ble_eq_true rfl, Nat.le_of_ble_eq_true rfl⟩ rfl rfl (Nat.le_of_ble_eq_true rfl) dX7_reads_11 ⟨Nat.le_of_ble_eq_true rfl, Nat.le_of_ble_eq_true rfl⟩ [0, 1, 2] [] (by decide : ([0, 1, 2] ++ ([] : List Nat)).Perm (List.range 3)) rfl rfl 14 rfl (fun v0 R0 t0 ht0 hp0 => ?_)
  obtain ⟨rfl, wP_11, hwP_11, wD_11, hwD_11, rfl⟩ := hp0
  refine q_eqs (st' := []) rfl ?_
  refine q_eqR (Rs' := [wP_11, wU, wD_11]) rfl ?_
  have lp : ∀ (kk : Nat) (n : Nat) (a : Nat) (ps : List Nat) (wp : va_W) (wd : va_W), n < kk → ∀ (hfr : k_fr tx 61 0 = k_fr tx n a), ∀ (hpl : k_plA tx 61 0 [] = k_plA tx n a ps), ∀ (hn : 61 ≤ n + a), ∀ (hal : a ≤ tx.length), ∀ (hps : 5 * ps.length ≤ a), ∀ (hwp : k_isP cI h0 aS aZ aV aN aU aD (upd (upd (upd fd 10 (q_b (k_okp tx a))) 9 (nI (k_mx tx a))) 12 (nI (k_ap tx ps a).length)) (hh) wp), ∀ (hwd : k_isD cI aD tx (k_ap tx ps a) wd), q_V p9 l e9 R s9 m9 args below meth c9 D A 1 Q 0 0 14 [(0, .ref h0)] [] [wp, wU, wd] := by
    intro kk
    induction kk with
    | zero => intro n a ps wp wd hkk; exact absurd hkk (Nat.not_lt_zero _)
    | succ kk ih_lp =>
      intro n a ps wp wd hkk hfr hpl hn hal hps hwp hwd
      obtain ⟨m, rfl⟩ : ∃ m, n = m + 1 := ⟨n - 1, by omega⟩
      have hmge := k_mx_ge tx a
      have hmle := k_mx_end hal
      refine q_aload_n C dX7_reads_14 15 0 rfl rfl ?_
      obtain rfl := hwp
      have hPo4 : k_isP cI h0 aS aZ aV aN aU aD (upd (upd (upd fd 10 (q_b (k_okp tx a))) 9 (nI (k_mx tx a))) 12 (nI (k_ap tx ps a).length)) hh [(h0, .inr (6, [.int (fd 0), .ref aS, .ref aZ, .ref aV, .int (fd 4), .ref aN, .int (fd 6), .ref aU, .int (fd 8), .int (nI ((k_mx tx a))), .int (q_b (k_okp tx a)), .ref aD, .int (nI (((k_ap tx ps a).length))), .int (fd 13), .int (fd 14), .long hh]))] := rfl
      refine q_get (k := 0) (j := 0) (f := 10) C hinX7 f135 (fun _ h => h) (by decide) rfl dX7_reads_15 18 rfl rfl rfl rfl ?_
      refine q_if_eq (P := k_okp tx a = false) C dX7_reads_18 21 52 rfl (by decide) q_b0 (fun h18 => ?_) (fun h18 => ?_)
      · refine q_aload_n C dX7_reads_52 53 0 rfl rfl ?_
        refine q_get (k := 0) (j := 0) (f := 10) C hinX7 f135 (fun _ h => h) (by decide) rfl dX7_reads_53 56 rfl rfl rfl rfl ?_
        exact q_zret C B (by first | exact q_b_nar _ | exact (show narrow .boolean (.int (nI 0)) = .int (nI 0) by decide)) dX7_reads_56 rfl rfl (fun t0 ht0 => ⟨by rw [show k_rd tx = _ from hfr.trans (k_fr_badk h18)]; rfl, _, by rw [show k_rd tx = _ from hfr.trans (k_fr_badk h18), show k_rp tx = _ from hpl.trans (k_pl_no (fun z => by rw [h18] at z; cases z.1))]; exact hPo4, _, by rw [show k_rp tx = _ from hpl.trans (k_pl_no (fun z => by rw [h18] at z; cases z.1))]; exact hwd, rfl⟩)
      · have hok : k_okp tx a = true := by simpa using h18
        refine q_aload_n C dX7_reads_21 22 0 rfl rfl ?_
        refine q_get (k := 0) (j := 0) (f := 9) C hinX7 f132 (fun _ h => h) (by decide) rfl dX7_reads_22 25 rfl rfl rfl rfl ?_
        refine q_aload_n C dX7_reads_25 26 0 rfl rfl ?_
        refine q_get (k := 0) (j := 0) (f := 8) C hinX7 f129 (fun _ h => h) (by decide) rfl dX7_reads_26 29 rfl rfl rfl rfl ?_
        refine q_eqs (st' := [.int (nI tx.length), .int (nI ((k_mx tx a)))]) (by show ([.int (fd 8), .int (nI ((k_mx tx a)))] : List Value) = _; rw [q8]) ?_
        refine q_icmp_ge C dX7_reads_29 32 52 rfl (by decide) (nI_leI (by omega) (by omega)) (fun h29 => ?_) (fun h29 => ?_)
        · refine q_aload_n C dX7_reads_52 53 0 rfl rfl ?_
          refine q_get (k := 0) (j := 0) (f := 10) C hinX7 f135 (fun _ h => h) (by decide) rfl dX7_reads_53 56 rfl rfl rfl rfl ?_
          exact q_zret C B (by first | exact q_b_nar _ | exact (show narrow .boolean (.int (nI 0)) = .int (nI 0) by decide)) dX7_reads_56 rfl rfl (fun t0 ht0 => ⟨by rw [show k_rd tx = _ from hfr.trans (k_fr_endk (fun z => by omega))]; rfl, _, by rw [show k_rd tx = _ from hfr.trans (k_fr_endk (fun z => by omega)), show k_rp tx = _ from hpl.trans (k_pl_no (fun z => by have := z.2.1; omega))]; exact hPo4, _, by rw [show k_rp tx = _ from hpl.trans (k_pl_no (fun z => by have := z.2.1; omega))]; exact hwd, rfl⟩)
        · have hlt : k_mx tx a < tx.length := by omega
          have hmg4 := k_okp_ge hok
          refine q_aload_n C dX7_reads_32 33 0 rfl rfl ?_
          refine q_bipush (v := nI 59) C dX7_reads_33 35 rfl (by decide) ?_
          refine q_callV (k := 0) (ci := 6) (n := 1) (rest := []) (Rr := [wd]) C rfl (k_isP_recv hPo4) rfl (c_X7_wants l hZ hI h0 aS aZ aV aN aU aD (upd (upd (upd fd 10 (q_b (k_okp tx a))) 9 (nI (k_mx tx a))) 12 (nI (k_ap tx ps a).length)) hh ([(h0, .inr (6, [.int (fd 0), .ref aS, .ref aZ, .ref aV, .int (fd 4), .ref aN, .int (fd 6), .ref aU, .int (fd 8), .int (nI ((k_mx tx a))), .int (q_b (k_okp tx a)), .ref aD, .int (nI (((k_ap tx ps a).length))), .int (fd 13), .int (fd 14), .long hh]))]) hPo4 tx wU hU 59 (k_mx tx a) (k_okp tx a) (by first | exact q8 | rfl) rfl rfl (by omega) (by omega)) gX7_reads_X7_wants rfl rfl rfl (by decide +kernel) B.1 ⟨Nat.le_of_ble_eq_true rfl, Nat.le_of_ble_eq_true rfl⟩ rfl rfl (Nat.le_of_ble_eq_true rfl) dX7_reads_35 ⟨Nat.le_of_ble_eq_true rfl, Nat.le_of_ble_eq_true rfl⟩ [0, 1] [2] (by decide : ([0, 1] ++ ([2] : List Nat)).Perm (List.range 3)) rfl rfl 38 rfl (fun v0 R0 t0 ht0 hp0 => ?_)
          obtain ⟨rfl, wP_35, hwP_35, rfl⟩ := hp0
          refine q_eqs (st' := []) rfl ?_
          refine q_eqR (Rs' := [wP_35, wU, wd]) rfl ?_
          by_cases h59 : k_sg tx (k_mx tx a) = 59
          · have hPk2 : k_isP cI h0 aS aZ aV aN aU aD (upd (upd (upd fd 10 (nI 1)) 9 (nI (k_mx tx a + 1))) 12 (nI (k_ap tx ps a).length)) hh wP_35 := by have hz := hwP_35; rw [k_wt_t hok h59] at hz; exact hz
            refine q_aload_n C dX7_reads_38 39 0 rfl rfl ?_
            obtain rfl := hPk2
            have hPo5 : k_isP cI h0 aS aZ aV aN aU aD (upd (upd (upd fd 10 (nI 1)) 9 (nI (k_mx tx a + 1))) 12 (nI (k_ap tx ps a).length)) hh [(h0, .inr (6, [.int (fd 0), .ref aS, .ref aZ, .ref aV, .int (fd 4), .ref aN, .int (fd 6), .ref aU, .int (fd 8), .int (nI (k_mx tx a + 1)), .int (nI 1), .ref aD, .int (nI (((k_ap tx ps a).length))), .int (fd 13), .int (fd 14), .long hh]))] := rfl
            refine q_get (k := 0) (j := 0) (f := 10) C hinX7 f135 (fun _ h => h) (by decide) rfl dX7_reads_39 42 rfl rfl rfl rfl ?_
            refine q_if_eq C dX7_reads_42 45 14 rfl (by decide) (q_eq0 (by omega)) (fun h42 => False.elim (by first | omega | simp_all)) (fun h42 => ?_)
            refine q_aload_n C dX7_reads_45 46 0 rfl rfl ?_
            refine q_callV (k := 0) (ci := 6) (n := 0) (rest := []) (Rr := []) C rfl (k_isP_recv hPo5) rfl (c_X7_readsPart l hZ hI h0 aS aZ aV aN aU aD (upd (upd (upd fd 10 (nI 1)) 9 (nI (k_mx tx a + 1))) 12 (nI (k_ap tx ps a).length)) hh ([(h0, .inr (6, [.int (fd 0), .ref aS, .ref aZ, .ref aV, .int (fd 4), .ref aN, .int (fd 6), .ref aU, .int (fd 8), .int (nI (k_mx tx a + 1)), .int (nI 1), .ref aD, .int (nI (((k_ap tx ps a).length))), .int (fd 13), .int (fd 14), .long hh]))]) hPo5 tx wU hU tx ((k_ap tx ps a)) wd hwd (k_mx tx a + 1) (by first | exact q8 | rfl) (by first | exact q9 | rfl) rfl rfl (by rw [k_ap_t hok, List.length_append, List.length_singleton]; omega) (by omega)) gX7_reads_X7_readsPart rfl rfl rfl (by decide +kernel) B.1 ⟨Nat.le_of_ble_eq_true rfl, Nat.le_of_ble_eq_true rfl⟩ rfl rfl (Nat.le_of_ble_eq_true rfl) dX7_reads_46 ⟨Nat.le_of_ble_eq_true rfl, Nat.le_of_ble_eq_true rfl⟩ [0, 1, 2] [] (by decide : ([0, 1, 2] ++ ([] : List Nat)).Perm (List.range 3)) rfl rfl 49 rfl (fun v0 R0 t0 ht0 hp0 => ?_)
            obtain ⟨rfl, wP_46, hwP_46, wD_46, hwD_46, rfl⟩ := hp0
            refine q_eqs (st' := []) rfl ?_
            refine q_eqR (Rs' := [wP_46, wU, wD_46]) rfl ?_
            refine q_goto C dX7_reads_49 14 (by decide) ?_
            refine q_sub (L' := [(0, .ref h0)]) [0] rfl ?_
            exact ih_lp m (k_mx tx a + 1) (k_ap tx ps a) wP_46 wD_46 (by omega) (by rw [hfr, k_fr_go hok hlt h59]) (by rw [hpl, k_pl_go hok hlt h59]) (by omega) (by omega) (by rw [k_ap_t hok, List.length_append, List.length_singleton]; omega) hwP_46 hwD_46
          · have hPk3 : k_isP cI h0 aS aZ aV aN aU aD (upd (upd (upd fd 10 (nI 0)) 9 (nI (k_mx tx a))) 12 (nI (k_ap tx ps a).length)) hh wP_35 := by have hz := hwP_35; rw [k_wt_f2 h59] at hz; exact hz
            refine q_aload_n C dX7_reads_38 39 0 rfl rfl ?_
            obtain rfl := hPk3
            have hPo6 : k_isP cI h0 aS aZ aV aN aU aD (upd (upd (upd fd 10 (nI 0)) 9 (nI (k_mx tx a))) 12 (nI (k_ap tx ps a).length)) hh [(h0, .inr (6, [.int (fd 0), .ref aS, .ref aZ, .ref aV, .int (fd 4), .ref aN, .int (fd 6), .ref aU, .int (fd 8), .int (nI ((k_mx tx a))), .int (nI 0), .ref aD, .int (nI (((k_ap tx ps a).length))), .int (fd 13), .int (fd 14), .long hh]))] := rfl
            refine q_get (k := 0) (j := 0) (f := 10) C hinX7 f135 (fun _ h => h) (by decide) rfl dX7_reads_39 42 rfl rfl rfl rfl ?_
            refine q_if_eq C dX7_reads_42 45 14 rfl (by decide) (q_eq0 (by omega)) (fun h42 => ?_) (fun h42 => False.elim (by first | omega | simp_all))
            refine q_aload_n C dX7_reads_14 15 0 rfl rfl ?_
            refine q_get (k := 0) (j := 0) (f := 10) C hinX7 f135 (fun _ h => h) (by decide) rfl dX7_reads_15 18 rfl rfl rfl rfl ?_
            refine q_if_eq C dX7_reads_18 21 52 rfl (by decide) (q_eq0 (by omega)) (fun h18 => ?_) (fun h18 => False.elim (by first | omega | simp_all))
            refine q_aload_n C dX7_reads_52 53 0 rfl rfl ?_
            refine q_get (k := 0) (j := 0) (f := 10) C hinX7 f135 (fun _ h => h) (by decide) rfl dX7_reads_53 56 rfl rfl rfl rfl ?_
            exact q_zret C B (by first | exact q_b_nar _ | exact (show narrow .boolean (.int (nI 0)) = .int (nI 0) by decide)) dX7_reads_56 rfl rfl (fun t0 ht0 => ⟨by rw [show k_rd tx = _ from hfr.trans (k_fr_no hok hlt h59)]; rfl, _, by rw [show k_rd tx = _ from hfr.trans (k_fr_no hok hlt h59), show k_rp tx = _ from hpl.trans (k_pl_no (fun z => h59 z.2.2))]; exact hPo6, _, by rw [show k_rp tx = _ from hpl.trans (k_pl_no (fun z => h59 z.2.2))]; exact hwd, rfl⟩)
  refine q_sub (L' := [(0, .ref h0)]) [0] rfl ?_
  exact lp _ 61 0 ([]) wP_11 wD_11 (Nat.lt_succ_self _) rfl rfl (by omega) (by omega) (by show 5 * 0 ≤ 0; omega) hwP_11 hwD_11

set_option maxHeartbeats 400000 in
set_option maxRecDepth 100000 in
theorem c_X7_firstError (l : Launch) {D : va_G} {tys : List (ClassId × FieldType)} {Z : (Nat → Prop) → State → Heap → Prop} (hZ : q_St Z) {cI : ClassId} (hI : tys[0]? = some (cI, .int)) (h0 : Nat) (aS : Nat) (aZ : Nat) (aV : Nat) (aN : Nat) (aU : Nat) (aD : Nat) (fd : Nat → Int32) (hh : Int64) (wP : va_W) (hP : k_isP cI h0 aS aZ aV aN aU aD fd hh wP) (tx : List Nat) (wU : va_W) (hU : k_isU cI aU tx wU) (dx : List Nat) (ps : List Nat) (wD : va_W) (hD : k_isD cI aD dx ps wD) (q8 : fd 8 = nI tx.length) : q_Ct l D tys Z yX7_firstError wsX7_firstError ({ frames := 8, cells := 0, slots := 0, locals := 252 } : Room) 0 0 [.ref h0] [wP, wU, wD] (fun v0 R0 _ => v0 = some (.int (nI ((k_rd tx).1))) ∧ ∃ wP', k_isP cI h0 aS aZ aV aN aU aD (upd (upd (upd (upd fd 0 (nI 0)) 10 (q_b (k_rd tx).2)) 9 (nI (k_rd tx).1)) 12 (nI (k_rp tx).length)) hh wP' ∧ ∃ wD', k_isD cI aD tx (k_rp tx) wD' ∧ R0 = [wP', wU, wD']) := by
  have hcI := hI
  refine q_ct (cc := cX7_firstError) (maxL := 1) (ret := (some .int)) (own := RX7) (by decide) rfl hZ (Nat.le_of_ble_eq_true rfl) rfl ?_
  intro p9 e9 R s9 m9 args below meth c9 A Q C B
  have hts := C.2.2.2.2.1
  have hinX7 : ∀ w ∈ u_ws RX7 TX7 16, w ∈ wsX7_firstError := by decide +kernel
  have f28 := hts (.fieldLink RX7 28 "SortCasesModel" "thrown" "I") (by decide +kernel)
  have f132 := hts (.fieldLink RX7 132 "SortCasesModel" "at" "I") (by decide +kernel)
  have f129 := hts (.fieldLink RX7 129 "SortCasesModel" "length" "I") (by decide +kernel)
  refine q_eqL (L' := [(0, .ref h0)]) rfl ?_
  refine q_aload_n C dX7_firstError_0 1 0 rfl rfl ?_
  refine q_iconst (v := nI 0) C dX7_firstError_1 2 rfl (by decide) ?_
  obtain rfl := hP
  have hPo1 : k_isP cI h0 aS aZ aV aN aU aD fd hh [(h0, .inr (6, [.int (fd 0), .ref aS, .ref aZ, .ref aV, .int (fd 4), .ref aN, .int (fd 6), .ref aU, .int (fd 8), .int (fd 9), .int (fd 10), .ref aD, .int (fd 12), .int (fd 13), .int (fd 14), .long hh]))] := rfl
  refine q_put (k := 0) (j := 0) (f := 0) C hinX7 tyX7 tyX7_ok nmX7 f28 (fun _ h => h) (by decide) rfl rfl (tyX7_ok 0 (by decide)) rfl rfl dX7_firstError_2 5 rfl rfl rfl (Nat.le_of_ble_eq_true rfl) [[(h0, .inr (6, [.int (nI 0), .ref aS, .ref aZ, .ref aV, .int (fd 4), .ref aN, .int (fd 6), .ref aU, .int (fd 8), .int (fd 9), .int (fd 10), .ref aD, .int (fd 12), .int (fd 13), .int (fd 14), .long hh]))], wU, wD] rfl ?_
  have hPp2 : k_isP cI h0 aS aZ aV aN aU aD (upd fd 0 (nI 0)) hh [(h0, .inr (6, [.int (nI 0), .ref aS, .ref aZ, .ref aV, .int (fd 4), .ref aN, .int (fd 6), .ref aU, .int (fd 8), .int (fd 9), .int (fd 10), .ref aD, .int (fd 12), .int (fd 13), .int (fd 14), .long hh]))] := rfl
  refine q_aload_n C dX7_firstError_5 6 0 rfl rfl ?_
  refine q_callV (k := 0) (ci := 6) (n := 0) (rest := []) (Rr := []) C rfl (k_isP_recv hPp2) rfl (c_X7_reads l hZ hI h0 aS aZ aV aN aU aD (upd fd 0 (nI 0)) hh ([(h0, .inr (6, [.int (nI 0), .ref aS, .ref aZ, .ref aV, .int (fd 4), .ref aN, .int (fd 6), .ref aU, .int (fd 8), .int (fd 9), .int (fd 10), .ref aD, .int (fd 12), .int (fd 13), .int (fd 14), .long hh]))]) hPp2 tx wU hU dx ps wD hD (by first | exact q8 | rfl)) gX7_firstError_X7_reads rfl rfl rfl (by decide +kernel) B.1 ⟨Nat.le_of_ble_eq_true rfl, Nat.le_of_ble_eq_true rfl⟩ rfl rfl (Nat.le_of_ble_eq_true rfl) dX7_firstError_6 ⟨Nat.le_of_ble_eq_true rfl, Nat.le_of_ble_eq_true rfl⟩ [0, 1, 2] [] (by decide : ([0, 1, 2] ++ ([] : List Nat)).Perm (List.range 3)) rfl rfl 9 rfl (fun v0 R0 t0 ht0 hp0 => ?_)
  obtain ⟨rfl, wP_6, hwP_6, wD_6, hwD_6, rfl⟩ := hp0
  refine q_eqs (st' := [.int (q_b ((k_rd tx).2))]) rfl ?_
  refine q_eqR (Rs' := [wP_6, wU, wD_6]) rfl ?_
  refine q_if_eq (P := (k_rd tx).2 = false) C dX7_firstError_9 12 19 rfl (by decide) q_b0 (fun h9 => ?_) (fun h9 => ?_)
  · refine q_aload_n C dX7_firstError_19 20 0 rfl rfl ?_
    obtain rfl := hwP_6
    have hPo3 : k_isP cI h0 aS aZ aV aN aU aD (upd (upd (upd (upd fd 0 (nI 0)) 10 (q_b (k_rd tx).2)) 9 (nI (k_rd tx).1)) 12 (nI (k_rp tx).length)) hh [(h0, .inr (6, [.int (nI 0), .ref aS, .ref aZ, .ref aV, .int (fd 4), .ref aN, .int (fd 6), .ref aU, .int (fd 8), .int (nI (((k_rd tx).1))), .int (q_b ((k_rd tx).2)), .ref aD, .int (nI (((k_rp tx).length))), .int (fd 13), .int (fd 14), .long hh]))] := rfl
    refine q_get (k := 0) (j := 0) (f := 9) C hinX7 f132 (fun _ h => h) (by decide) rfl dX7_firstError_20 23 rfl rfl rfl rfl ?_
    exact q_iret C B dX7_firstError_23 rfl rfl (fun t0 ht0 => ⟨rfl, _, hPo3, _, hwD_6, by first | rfl | simp⟩)
  · refine q_aload_n C dX7_firstError_12 13 0 rfl rfl ?_
    obtain rfl := hwP_6
    have hPo4 : k_isP cI h0 aS aZ aV aN aU aD (upd (upd (upd (upd fd 0 (nI 0)) 10 (q_b (k_rd tx).2)) 9 (nI (k_rd tx).1)) 12 (nI (k_rp tx).length)) hh [(h0, .inr (6, [.int (nI 0), .ref aS, .ref aZ, .ref aV, .int (fd 4), .ref aN, .int (fd 6), .ref aU, .int (fd 8), .int (nI (((k_rd tx).1))), .int (q_b ((k_rd tx).2)), .ref aD, .int (nI (((k_rp tx).length))), .int (fd 13), .int (fd 14), .long hh]))] := rfl
    refine q_get (k := 0) (j := 0) (f := 8) C hinX7 f129 (fun _ h => h) (by decide) rfl dX7_firstError_13 16 rfl rfl rfl rfl ?_
    refine q_eqs (st' := [.int (nI tx.length)]) (by show ([.int (fd 8)] : List Value) = _; rw [q8]) ?_
    refine q_goto C dX7_firstError_16 23 (by decide) ?_
    exact q_iret C B dX7_firstError_23 rfl rfl (fun t0 ht0 => ⟨by rw [k_rd_len (by simpa using h9)], _, hPo4, _, hwD_6, by first | rfl | simp⟩)
