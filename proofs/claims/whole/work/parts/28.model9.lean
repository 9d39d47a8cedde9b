set_option maxHeartbeats 400000 in
set_option maxRecDepth 100000 in
theorem c_X7_readsPart (l : Launch) {D : va_G} {tys : List (ClassId × FieldType)} {Z : (Nat → Prop) → State → Heap → Prop} (hZ : q_St Z) {cI : ClassId} (hI : tys[0]? = some (cI, .int)) (h0 : Nat) (aS : Nat) (aZ : Nat) (aV : Nat) (aN : Nat) (aU : Nat) (aD : Nat) (fd : Nat → Int32) (hh : Int64) (wP : va_W) (hP : k_isP cI h0 aS aZ aV aN aU aD fd hh wP) (tx : List Nat) (wU : va_W) (hU : k_isU cI aU tx wU) (dx : List Nat) (ps : List Nat) (wD : va_W) (hD : k_isD cI aD dx ps wD) (at9 : Nat) (q8 : fd 8 = nI tx.length) (q9 : fd 9 = nI at9) (q12 : fd 12 = nI ps.length) (hdx : tx = dx) (hps : 5 * ps.length ≤ at9) (ha : at9 ≤ 60) : q_Ct l D tys Z yX7_readsPart wsX7_readsPart ({ frames := 6, cells := 0, slots := 0, locals := 192 } : Room) 0 0 [.ref h0] [wP, wU, wD] (fun v0 R0 _ => v0 = none ∧ ∃ wP', k_isP cI h0 aS aZ aV aN aU aD (upd (upd (upd fd 10 (q_b (k_okp tx at9))) 9 (nI (k_mx tx at9))) 12 (nI (k_ap tx ps at9).length)) hh wP' ∧ ∃ wD', k_isD cI aD tx (k_ap tx ps at9) wD' ∧ R0 = [wP', wU, wD']) := by
  have hcI := hI
  refine q_ct (cc := cX7_readsPart) (maxL := 2) (ret := none) (own := RX7) (by decide) rfl hZ (Nat.le_of_ble_eq_true rfl) rfl ?_
  intro p9 e9 R s9 m9 args below meth c9 A Q C B
  have hts := C.2.2.2.2.1
  have hinX7 : ∀ w ∈ u_ws RX7 TX7 16, w ∈ wsX7_readsPart := by decide +kernel
  have f153 := hts (.fieldLink RX7 153 "SortCasesModel" "readMany" "I") (by decide +kernel)
  have f25 := hts (.fieldLink RX7 25 "SortCasesModel" "read" "[I") (by decide +kernel)
  have f132 := hts (.fieldLink RX7 132 "SortCasesModel" "at" "I") (by decide +kernel)
  have f135 := hts (.fieldLink RX7 135 "SortCasesModel" "isWell" "Z") (by decide +kernel)
  refine q_eqL (L' := [(0, .ref h0)]) rfl ?_
  subst hdx
  have htl := hU.1.1
  obtain ⟨fr1, hrd1, rfl⟩ := hD
  have hDo1 : k_isD cI aD tx ps [(aD, .inl (cI, 64, .inl fr1))] := ⟨fr1, hrd1, rfl⟩
  have hEr1 : k_isE cI aD fr1 [(aD, .inl (cI, 64, .inl fr1))] := rfl
  refine q_iconst (v := nI 3) C dX7_readsPart_0 1 rfl (by decide) ?_
  refine q_aload_n C dX7_readsPart_1 2 0 rfl rfl ?_
  obtain rfl := hP
  have hPo2 : k_isP cI h0 aS aZ aV aN aU aD fd hh [(h0, .inr (6, [.int (fd 0), .ref aS, .ref aZ, .ref aV, .int (fd 4), .ref aN, .int (fd 6), .ref aU, .int (fd 8), .int (fd 9), .int (fd 10), .ref aD, .int (fd 12), .int (fd 13), .int (fd 14), .long hh]))] := rfl
  refine q_get (k := 0) (j := 0) (f := 12) C hinX7 f153 (fun _ h => h) (by decide) rfl dX7_readsPart_2 5 rfl rfl rfl rfl ?_
  refine q_eqs (st' := [.int (nI ps.length), .int (nI 3)]) (by show ([.int (fd 12), .int (nI 3)] : List Value) = _; rw [q12]) ?_
  refine q_imul (v := nI (3 * ps.length)) C dX7_readsPart_5 6 rfl (q_nmul (by omega)) ?_
  refine q_istore_n C dX7_readsPart_6 7 rfl [(1, .int (nI (3 * ps.length))), (0, .ref h0)] (by decide) rfl ?_
  refine q_aload_n C dX7_readsPart_7 8 1 rfl rfl ?_
  refine q_get (k := 0) (j := 0) (f := 11) C hinX7 f25 (fun _ h => h) (by decide) rfl dX7_readsPart_8 11 rfl rfl rfl rfl ?_
  refine q_iload_n C dX7_readsPart_11 12 0 rfl rfl ?_
  refine q_aload_n C dX7_readsPart_12 13 1 rfl rfl ?_
  refine q_callV (k := 0) (ci := 6) (n := 0) (rest := [.int (nI (3 * ps.length)), .ref aD]) (Rr := [[(aD, .inl (cI, 64, .inl fr1))]]) C rfl (k_isP_recv hPo2) rfl (c_X7_word l hZ hI h0 aS aZ aV aN aU aD fd hh ([(h0, .inr (6, [.int (fd 0), .ref aS, .ref aZ, .ref aV, .int (fd 4), .ref aN, .int (fd 6), .ref aU, .int (fd 8), .int (fd 9), .int (fd 10), .ref aD, .int (fd 12), .int (fd 13), .int (fd 14), .long hh]))]) hPo2 tx wU hU at9 (by first | exact q8 | rfl) (by first | exact q9 | rfl) (by omega)) gX7_readsPart_X7_word rfl rfl rfl (by decide +kernel) B.1 ⟨Nat.le_of_ble_eq_true rfl, Nat.le_of_ble_eq_true rfl⟩ rfl rfl (Nat.le_of_ble_eq_true rfl) dX7_readsPart_13 ⟨Nat.le_of_ble_eq_true rfl, Nat.le_of_ble_eq_true rfl⟩ [0, 1] [2] (by decide : ([0, 1] ++ ([2] : List Nat)).Perm (List.range 3)) rfl rfl 16 rfl (fun v0 R0 t0 ht0 hp0 => ?_)
  obtain ⟨rfl, wP_13, hwP_13, rfl⟩ := hp0
  refine q_eqs (st' := [.int (nI (k_kd tx at9)), .int (nI (3 * ps.length)), .ref aD]) rfl ?_
  refine q_eqR (Rs' := [wP_13, wU, [(aD, .inl (cI, 64, .inl fr1))]]) rfl ?_
  obtain hk | hk | hk | hk | hk : k_kd tx at9 = 1 ∨ k_kd tx at9 = 2 ∨ k_kd tx at9 = 3 ∨ k_kd tx at9 = 4 ∨ k_kd tx at9 = 5 := by have hkl := k_kd_lt tx at9; omega
  · refine q_eqs (st' := [.int (nI 1), .int (nI (3 * ps.length)), .ref aD]) (by rw [hk]) ?_
    refine q_iast (k := 2) (j := 0) C dX7_readsPart_16 17 rfl rfl rfl hcI (3 * ps.length) rfl (by omega) (by decide) [wP_13, wU, [(aD, .inl (cI, 64, .inl (upd fr1 (3 * ps.length) (nI 1))))]] rfl ?_
    have hEs3 : k_isE cI aD (upd fr1 (3 * ps.length) (nI 1)) [(aD, .inl (cI, 64, .inl (upd fr1 (3 * ps.length) (nI 1))))] := rfl
    rcases Nat.lt_or_ge (k_pw tx (k_wo 1) at9) (k_wo 1).length with hp | hp
    · have hPk2 : k_isP cI h0 aS aZ aV aN aU aD (upd (upd fd 10 (nI 0)) 9 (nI (at9 + k_pw tx (k_wo 1) at9))) hh wP_13 := by have hz := hwP_13; rw [hk, k_wl_part hp] at hz; exact hz
      have hpl : k_pw tx (k_wo 1) at9 ≤ 4 := Nat.le_of_lt hp
      refine q_aload_n C dX7_readsPart_17 18 1 rfl rfl ?_
      obtain rfl := hPk2
      have hPo4 : k_isP cI h0 aS aZ aV aN aU aD (upd (upd fd 10 (nI 0)) 9 (nI (at9 + k_pw tx (k_wo 1) at9))) hh [(h0, .inr (6, [.int (fd 0), .ref aS, .ref aZ, .ref aV, .int (fd 4), .ref aN, .int (fd 6), .ref aU, .int (fd 8), .int (nI (at9 + k_pw tx (k_wo 1) at9)), .int (nI 0), .ref aD, .int (fd 12), .int (fd 13), .int (fd 14), .long hh]))] := rfl
      refine q_get (k := 0) (j := 0) (f := 11) C hinX7 f25 (fun _ h => h) (by decide) rfl dX7_readsPart_18 21 rfl rfl rfl rfl ?_
      refine q_iload_n C dX7_readsPart_21 22 0 rfl rfl ?_
      refine q_iald (k := 2) (j := 0) (v := nI 1) C dX7_readsPart_22 23 rfl rfl rfl hcI (3 * ps.length) rfl (by omega) (by decide) (by rw [pk_us]) ?_
      · refine q_tableIn C dX7_readsPart_23 56 (by decide) (by decide) rfl (by decide) ?_
        refine q_aload_n C dX7_readsPart_56 57 1 rfl rfl ?_
        refine q_get (k := 0) (j := 0) (f := 11) C hinX7 f25 (fun _ h => h) (by decide) rfl dX7_readsPart_57 60 rfl rfl rfl rfl ?_
        refine q_iload_n C dX7_readsPart_60 61 0 rfl rfl ?_
        refine q_iconst (v := nI 1) C dX7_readsPart_61 62 rfl (by decide) ?_
        refine q_iadd (v := nI (3 * ps.length + 1)) C dX7_readsPart_62 63 rfl (q_nadd (by omega)) ?_
        refine q_aload_n C dX7_readsPart_63 64 1 rfl rfl ?_
        refine q_get (k := 0) (j := 0) (f := 9) C hinX7 f132 (fun _ h => h) (by decide) rfl dX7_readsPart_64 67 rfl rfl rfl rfl ?_
        refine q_iast (k := 2) (j := 0) C dX7_readsPart_67 68 rfl rfl rfl hcI (3 * ps.length + 1) rfl (by omega) (by decide) [[(h0, .inr (6, [.int (fd 0), .ref aS, .ref aZ, .ref aV, .int (fd 4), .ref aN, .int (fd 6), .ref aU, .int (fd 8), .int (nI (at9 + k_pw tx (k_wo 1) at9)), .int (nI 0), .ref aD, .int (fd 12), .int (fd 13), .int (fd 14), .long hh]))], wU, [(aD, .inl (cI, 64, .inl (upd (upd fr1 (3 * ps.length) (nI 1)) (3 * ps.length + 1) (nI (at9 + k_pw tx (k_wo 1) at9)))))]] rfl ?_
        have hEs5 : k_isE cI aD (upd (upd fr1 (3 * ps.length) (nI 1)) (3 * ps.length + 1) (nI (at9 + k_pw tx (k_wo 1) at9))) [(aD, .inl (cI, 64, .inl (upd (upd fr1 (3 * ps.length) (nI 1)) (3 * ps.length + 1) (nI (at9 + k_pw tx (k_wo 1) at9)))))] := rfl
        refine q_aload_n C dX7_readsPart_68 69 1 rfl rfl ?_
        refine q_callV (k := 0) (ci := 6) (n := 0) (rest := []) (Rr := [[(aD, .inl (cI, 64, .inl (upd (upd fr1 (3 * ps.length) (nI 1)) (3 * ps.length + 1) (nI (at9 + k_pw tx (k_wo 1) at9)))))]]) C rfl (k_isP_recv hPo4) rfl (c_X7_letter l hZ hI h0 aS aZ aV aN aU aD (upd (upd fd 10 (nI 0)) 9 (nI (at9 + k_pw tx (k_wo 1) at9))) hh ([(h0, .inr (6, [.int (fd 0), .ref aS, .ref aZ, .ref aV, .int (fd 4), .ref aN, .int (fd 6), .ref aU, .int (fd 8), .int (nI (at9 + k_pw tx (k_wo 1) at9)), .int (nI 0), .ref aD, .int (fd 12), .int (fd 13), .int (fd 14), .long hh]))]) hPo4 tx wU hU (at9 + k_pw tx (k_wo 1) at9) false (by first | exact q8 | rfl) (by first | exact q9 | rfl) (by first | exact q10 | rfl) (by omega)) gX7_readsPart_X7_letter rfl rfl rfl (by decide +kernel) B.1 ⟨Nat.le_of_ble_eq_true rfl, Nat.le_of_ble_eq_true rfl⟩ rfl rfl (Nat.le_of_ble_eq_true rfl) dX7_readsPart_69 ⟨Nat.le_of_ble_eq_true rfl, Nat.le_of_ble_eq_true rfl⟩ [0, 1] [2] (by decide : ([0, 1] ++ ([2] : List Nat)).Perm (List.range 3)) rfl rfl 72 rfl (fun v0 R0 t0 ht0 hp0 => ?_)
        obtain ⟨rfl, wP_69, hwP_69, rfl⟩ := hp0
        refine q_eqs (st' := [.int (nI (k_sg tx (at9 + k_pw tx (k_wo 1) at9)) - nI 97)]) rfl ?_
        refine q_eqR (Rs' := [wP_69, wU, [(aD, .inl (cI, 64, .inl (upd (upd fr1 (3 * ps.length) (nI 1)) (3 * ps.length + 1) (nI (at9 + k_pw tx (k_wo 1) at9)))))]]) rfl ?_
        have hPk4 : k_isP cI h0 aS aZ aV aN aU aD (upd (upd fd 10 (nI 0)) 9 (nI (at9 + k_pw tx (k_wo 1) at9))) hh wP_69 := by have hz := hwP_69; rw [k_lp_f1 rfl] at hz; exact hz
        refine q_pop C dX7_readsPart_72 73 rfl rfl ?_
        refine q_aload_n C dX7_readsPart_73 74 1 rfl rfl ?_
        obtain rfl := hPk4
        have hPo6 : k_isP cI h0 aS aZ aV aN aU aD (upd (upd fd 10 (nI 0)) 9 (nI (at9 + k_pw tx (k_wo 1) at9))) hh [(h0, .inr (6, [.int (fd 0), .ref aS, .ref aZ, .ref aV, .int (fd 4), .ref aN, .int (fd 6), .ref aU, .int (fd 8), .int (nI (at9 + k_pw tx (k_wo 1) at9)), .int (nI 0), .ref aD, .int (fd 12), .int (fd 13), .int (fd 14), .long hh]))] := rfl
        refine q_get (k := 0) (j := 0) (f := 10) C hinX7 f135 (fun _ h => h) (by decide) rfl dX7_readsPart_74 77 rfl rfl rfl rfl ?_
        refine q_if_eq C dX7_readsPart_77 80 107 rfl (by decide) (q_eq0 (by omega)) (fun h77 => ?_) (fun h77 => False.elim (by first | omega | simp_all))
        refine q_aload_n C dX7_readsPart_107 108 1 rfl rfl ?_
        refine q_get (k := 0) (j := 0) (f := 11) C hinX7 f25 (fun _ h => h) (by decide) rfl dX7_readsPart_108 111 rfl rfl rfl rfl ?_
        refine q_iload_n C dX7_readsPart_111 112 0 rfl rfl ?_
        refine q_iconst (v := nI 2) C dX7_readsPart_112 113 rfl (by decide) ?_
        refine q_iadd (v := nI (3 * ps.length + 2)) C dX7_readsPart_113 114 rfl (q_nadd (by omega)) ?_
        refine q_aload_n C dX7_readsPart_114 115 1 rfl rfl ?_
        refine q_get (k := 0) (j := 0) (f := 9) C hinX7 f132 (fun _ h => h) (by decide) rfl dX7_readsPart_115 118 rfl rfl rfl rfl ?_
        refine q_aload_n C dX7_readsPart_118 119 1 rfl rfl ?_
        refine q_get (k := 0) (j := 0) (f := 11) C hinX7 f25 (fun _ h => h) (by decide) rfl dX7_readsPart_119 122 rfl rfl rfl rfl ?_
        refine q_iload_n C dX7_readsPart_122 123 0 rfl rfl ?_
        refine q_iconst (v := nI 1) C dX7_readsPart_123 124 rfl (by decide) ?_
        refine q_iadd (v := nI (3 * ps.length + 1)) C dX7_readsPart_124 125 rfl (q_nadd (by omega)) ?_
        refine q_iald (k := 2) (j := 0) (v := nI (at9 + k_pw tx (k_wo 1) at9)) C dX7_readsPart_125 126 rfl rfl rfl hcI (3 * ps.length + 1) rfl (by omega) (by decide) (by rw [pk_us]) ?_
        refine q_isub (v := nI 0) C dX7_readsPart_126 127 rfl (q_nsub (by omega) (by omega)) ?_
        refine q_iast (k := 2) (j := 0) C dX7_readsPart_127 128 rfl rfl rfl hcI (3 * ps.length + 2) rfl (by omega) (by decide) [[(h0, .inr (6, [.int (fd 0), .ref aS, .ref aZ, .ref aV, .int (fd 4), .ref aN, .int (fd 6), .ref aU, .int (fd 8), .int (nI (at9 + k_pw tx (k_wo 1) at9)), .int (nI 0), .ref aD, .int (fd 12), .int (fd 13), .int (fd 14), .long hh]))], wU, [(aD, .inl (cI, 64, .inl (upd (upd (upd fr1 (3 * ps.length) (nI 1)) (3 * ps.length + 1) (nI (at9 + k_pw tx (k_wo 1) at9))) (3 * ps.length + 2) (nI 0))))]] rfl ?_
        have hEs7 : k_isE cI aD (upd (upd (upd fr1 (3 * ps.length) (nI 1)) (3 * ps.length + 1) (nI (at9 + k_pw tx (k_wo 1) at9))) (3 * ps.length + 2) (nI 0)) [(aD, .inl (cI, 64, .inl (upd (upd (upd fr1 (3 * ps.length) (nI 1)) (3 * ps.length + 1) (nI (at9 + k_pw tx (k_wo 1) at9))) (3 * ps.length + 2) (nI 0))))] := rfl
        refine q_goto C dX7_readsPart_128 194 (by decide) ?_
        refine q_aload_n C dX7_readsPart_194 195 1 rfl rfl ?_
        refine q_dup C dX7_readsPart_195 196 rfl rfl ?_
        refine q_get (k := 0) (j := 0) (f := 12) C hinX7 f153 (fun _ h => h) (by decide) rfl dX7_readsPart_196 199 rfl rfl rfl rfl ?_
        refine q_eqs (st' := [.int (nI ps.length), .ref h0]) (by show ([.int (fd 12), .ref h0] : List Value) = _; rw [q12]) ?_
        refine q_aload_n C dX7_readsPart_199 200 1 rfl rfl ?_
        refine q_get (k := 0) (j := 0) (f := 10) C hinX7 f135 (fun _ h => h) (by decide) rfl dX7_readsPart_200 203 rfl rfl rfl rfl ?_
        refine q_if_eq C dX7_readsPart_203 206 210 rfl (by decide) (q_eq0 (by omega)) (fun h203 => ?_) (fun h203 => False.elim (by first | omega | simp_all))
        refine q_iconst (v := nI 0) C dX7_readsPart_210 211 rfl (by decide) ?_
        refine q_iadd (v := nI ps.length) C dX7_readsPart_211 212 rfl (q_nadd (by omega)) ?_
        refine q_put (k := 0) (j := 0) (f := 12) C hinX7 tyX7 tyX7_ok nmX7 f153 (fun _ h => h) (by decide) rfl rfl (tyX7_ok 12 (by decide)) rfl rfl dX7_readsPart_212 215 rfl rfl rfl (Nat.le_of_ble_eq_true rfl) [[(h0, .inr (6, [.int (fd 0), .ref aS, .ref aZ, .ref aV, .int (fd 4), .ref aN, .int (fd 6), .ref aU, .int (fd 8), .int (nI (at9 + k_pw tx (k_wo 1) at9)), .int (nI 0), .ref aD, .int (nI ps.length), .int (fd 13), .int (fd 14), .long hh]))], wU, [(aD, .inl (cI, 64, .inl (upd (upd (upd fr1 (3 * ps.length) (nI 1)) (3 * ps.length + 1) (nI (at9 + k_pw tx (k_wo 1) at9))) (3 * ps.length + 2) (nI 0))))]] rfl ?_
        have hPp8 : k_isP cI h0 aS aZ aV aN aU aD (upd (upd (upd fd 10 (nI 0)) 9 (nI (at9 + k_pw tx (k_wo 1) at9))) 12 (nI ps.length)) hh [(h0, .inr (6, [.int (fd 0), .ref aS, .ref aZ, .ref aV, .int (fd 4), .ref aN, .int (fd 6), .ref aU, .int (fd 8), .int (nI (at9 + k_pw tx (k_wo 1) at9)), .int (nI 0), .ref aD, .int (nI ps.length), .int (fd 13), .int (fd 14), .long hh]))] := rfl
        obtain ⟨hmx, hokp⟩ := k_mx_part hk hp (by decide)
        exact q_vret C B dX7_readsPart_215 rfl rfl (fun t0 ht0 => ⟨rfl, _, by rw [hokp, hmx, k_ap_f hokp]; exact hPp8, _, by rw [k_ap_f hokp]; exact ⟨_, k_RDs_keep hrd1 (fun q hq => by repeat rw [pk_un (by omega)]), rfl⟩, rfl⟩)
    · have hPk3 : k_isP cI h0 aS aZ aV aN aU aD (upd (upd fd 10 (nI 1)) 9 (nI (at9 + 4))) hh wP_13 := by have hz := hwP_13; rw [hk, k_wl_full hp] at hz; exact hz
      refine q_aload_n C dX7_readsPart_17 18 1 rfl rfl ?_
      obtain rfl := hPk3
      have hPo9 : k_isP cI h0 aS aZ aV aN aU aD (upd (upd fd 10 (nI 1)) 9 (nI (at9 + 4))) hh [(h0, .inr (6, [.int (fd 0), .ref aS, .ref aZ, .ref aV, .int (fd 4), .ref aN, .int (fd 6), .ref aU, .int (fd 8), .int (nI (at9 + 4)), .int (nI 1), .ref aD, .int (fd 12), .int (fd 13), .int (fd 14), .long hh]))] := rfl
      refine q_get (k := 0) (j := 0) (f := 11) C hinX7 f25 (fun _ h => h) (by decide) rfl dX7_readsPart_18 21 rfl rfl rfl rfl ?_
      refine q_iload_n C dX7_readsPart_21 22 0 rfl rfl ?_
      refine q_iald (k := 2) (j := 0) (v := nI 1) C dX7_readsPart_22 23 rfl rfl rfl hcI (3 * ps.length) rfl (by omega) (by decide) (by rw [pk_us]) ?_
      · refine q_tableIn C dX7_readsPart_23 56 (by decide) (by decide) rfl (by decide) ?_
        refine q_aload_n C dX7_readsPart_56 57 1 rfl rfl ?_
        refine q_get (k := 0) (j := 0) (f := 11) C hinX7 f25 (fun _ h => h) (by decide) rfl dX7_readsPart_57 60 rfl rfl rfl rfl ?_
        refine q_iload_n C dX7_readsPart_60 61 0 rfl rfl ?_
        refine q_iconst (v := nI 1) C dX7_readsPart_61 62 rfl (by decide) ?_
        refine q_iadd (v := nI (3 * ps.length + 1)) C dX7_readsPart_62 63 rfl (q_nadd (by omega)) ?_
        refine q_aload_n C dX7_readsPart_63 64 1 rfl rfl ?_
        refine q_get (k := 0) (j := 0) (f := 9) C hinX7 f132 (fun _ h => h) (by decide) rfl dX7_readsPart_64 67 rfl rfl rfl rfl ?_
        refine q_iast (k := 2) (j := 0) C dX7_readsPart_67 68 rfl rfl rfl hcI (3 * ps.length + 1) rfl (by omega) (by decide) [[(h0, .inr (6, [.int (fd 0), .ref aS, .ref aZ, .ref aV, .int (fd 4), .ref aN, .int (fd 6), .ref aU, .int (fd 8), .int (nI (at9 + 4)), .int (nI 1), .ref aD, .int (fd 12), .int (fd 13), .int (fd 14), .long hh]))], wU, [(aD, .inl (cI, 64, .inl (upd (upd fr1 (3 * ps.length) (nI 1)) (3 * ps.length + 1) (nI (at9 + 4)))))]] rfl ?_
        have hEs10 : k_isE cI aD (upd (upd fr1 (3 * ps.length) (nI 1)) (3 * ps.length + 1) (nI (at9 + 4))) [(aD, .inl (cI, 64, .inl (upd (upd fr1 (3 * ps.length) (nI 1)) (3 * ps.length + 1) (nI (at9 + 4)))))] := rfl
        refine q_aload_n C dX7_readsPart_68 69 1 rfl rfl ?_
        refine q_callV (k := 0) (ci := 6) (n := 0) (rest := []) (Rr := [[(aD, .inl (cI, 64, .inl (upd (upd fr1 (3 * ps.length) (nI 1)) (3 * ps.length + 1) (nI (at9 + 4)))))]]) C rfl (k_isP_recv hPo9) rfl (c_X7_letter l hZ hI h0 aS aZ aV aN aU aD (upd (upd fd 10 (nI 1)) 9 (nI (at9 + 4))) hh ([(h0, .inr (6, [.int (fd 0), .ref aS, .ref aZ, .ref aV, .int (fd 4), .ref aN, .int (fd 6), .ref aU, .int (fd 8), .int (nI (at9 + 4)), .int (nI 1), .ref aD, .int (fd 12), .int (fd 13), .int (fd 14), .long hh]))]) hPo9 tx wU hU (at9 + 4) true (by first | exact q8 | rfl) (by first | exact q9 | rfl) (by first | exact q10 | rfl) (by omega)) gX7_readsPart_X7_letter rfl rfl rfl (by decide +kernel) B.1 ⟨Nat.le_of_ble_eq_true rfl, Nat.le_of_ble_eq_true rfl⟩ rfl rfl (Nat.le_of_ble_eq_true rfl) dX7_readsPart_69 ⟨Nat.le_of_ble_eq_true rfl, Nat.le_of_ble_eq_true rfl⟩ [0, 1] [2] (by decide : ([0, 1] ++ ([2] : List Nat)).Perm (List.range 3)) rfl rfl 72 rfl (fun v0 R0 t0 ht0 hp0 => ?_)
        obtain ⟨rfl, wP_69, hwP_69, rfl⟩ := hp0
        refine q_eqs (st' := [.int (nI (k_sg tx (at9 + 4)) - nI 97)]) rfl ?_
        refine q_eqR (Rs' := [wP_69, wU, [(aD, .inl (cI, 64, .inl (upd (upd fr1 (3 * ps.length) (nI 1)) (3 * ps.length + 1) (nI (at9 + 4)))))]]) rfl ?_
        by_cases hL : 97 ≤ k_sg tx (at9 + 4) ∧ k_sg tx (at9 + 4) ≤ 108
        · have hPk5 : k_isP cI h0 aS aZ aV aN aU aD (upd (upd fd 10 (nI 1)) 9 (nI (at9 + 5))) hh wP_69 := by have hz := hwP_69; rw [k_lp_t rfl hL] at hz; exact hz
          refine q_pop C dX7_readsPart_72 73 rfl rfl ?_
          have lp : ∀ (kk : Nat) (j : Nat) (wp : va_W), 60 - j < kk → ∀ (hj0 : 1 ≤ j), ∀ (hj2 : j ≤ 60), ∀ (hj1 : at9 + j + 4 ≤ tx.length), ∀ (hlw : k_lw tx 60 (at9 + 4) = j + k_lw tx (60 - j) (at9 + j + 4)), ∀ (hwp : k_isP cI h0 aS aZ aV aN aU aD (upd (upd fd 10 (nI 1)) 9 (nI (at9 + j + 4))) hh wp), q_V p9 l e9 R s9 m9 args below meth c9 D A 2 Q 0 0 73 [(1, .int (nI (3 * ps.length))), (0, .ref h0)] [] [wp, wU, [(aD, .inl (cI, 64, .inl (upd (upd fr1 (3 * ps.length) (nI 1)) (3 * ps.length + 1) (nI (at9 + 4)))))]] := by
            intro kk
            induction kk with
            | zero => intro j wp hkk; exact absurd hkk (Nat.not_lt_zero _)
            | succ kk ih_lp =>
              intro j wp hkk hj0 hj2 hj1 hlw hwp
              refine q_aload_n C dX7_readsPart_73 74 1 rfl rfl ?_
              obtain rfl := hwp
              have hPo11 : k_isP cI h0 aS aZ aV aN aU aD (upd (upd fd 10 (nI 1)) 9 (nI (at9 + j + 4))) hh [(h0, .inr (6, [.int (fd 0), .ref aS, .ref aZ, .ref aV, .int (fd 4), .ref aN, .int (fd 6), .ref aU, .int (fd 8), .int (nI (at9 + j + 4)), .int (nI 1), .ref aD, .int (fd 12), .int (fd 13), .int (fd 14), .long hh]))] := rfl
              refine q_get (k := 0) (j := 0) (f := 10) C hinX7 f135 (fun _ h => h) (by decide) rfl dX7_readsPart_74 77 rfl rfl rfl rfl ?_
              refine q_if_eq C dX7_readsPart_77 80 107 rfl (by decide) (q_eq0 (by omega)) (fun h77 => False.elim (by first | omega | simp_all)) (fun h77 => ?_)
              refine q_aload_n C dX7_readsPart_80 81 1 rfl rfl ?_
              refine q_callV (k := 0) (ci := 6) (n := 0) (rest := []) (Rr := [[(aD, .inl (cI, 64, .inl (upd (upd fr1 (3 * ps.length) (nI 1)) (3 * ps.length + 1) (nI (at9 + 4)))))]]) C rfl (k_isP_recv hPo11) rfl (c_X7_sign l hZ hI h0 aS aZ aV aN aU aD (upd (upd fd 10 (nI 1)) 9 (nI (at9 + j + 4))) hh ([(h0, .inr (6, [.int (fd 0), .ref aS, .ref aZ, .ref aV, .int (fd 4), .ref aN, .int (fd 6), .ref aU, .int (fd 8), .int (nI (at9 + j + 4)), .int (nI 1), .ref aD, .int (fd 12), .int (fd 13), .int (fd 14), .long hh]))]) hPo11 tx wU hU (at9 + j + 4) (by first | exact q8 | rfl) (by first | exact q9 | rfl) (by omega)) gX7_readsPart_X7_sign rfl rfl rfl (by decide +kernel) B.1 ⟨Nat.le_of_ble_eq_true rfl, Nat.le_of_ble_eq_true rfl⟩ rfl rfl (Nat.le_of_ble_eq_true rfl) dX7_readsPart_81 ⟨Nat.le_of_ble_eq_true rfl, Nat.le_of_ble_eq_true rfl⟩ [0, 1] [2] (by decide : ([0, 1] ++ ([2] : List Nat)).Perm (List.range 3)) rfl rfl 84 rfl (fun v0 R0 t0 ht0 hp0 => ?_)
              obtain ⟨rfl, rfl⟩ := hp0
              refine q_eqs (st' := [.int (nI (k_sg tx (at9 + j + 4)))]) rfl ?_
              refine q_eqR (Rs' := [[(h0, .inr (6, [.int (fd 0), .ref aS, .ref aZ, .ref aV, .int (fd 4), .ref aN, .int (fd 6), .ref aU, .int (fd 8), .int (nI (at9 + j + 4)), .int (nI 1), .ref aD, .int (fd 12), .int (fd 13), .int (fd 14), .long hh]))], wU, [(aD, .inl (cI, 64, .inl (upd (upd fr1 (3 * ps.length) (nI 1)) (3 * ps.length + 1) (nI (at9 + 4)))))]]) rfl ?_
              have hs81 : k_sg tx (at9 + j + 4) ≤ 126 := k_sg_le hU.1 _
              refine q_bipush (v := nI 97) C dX7_readsPart_84 86 rfl (by decide) ?_
              refine q_bipush (v := nI 108) C dX7_readsPart_86 88 rfl (by decide) ?_
              refine q_callS (n := 3) (rest := []) (Rr := [[(h0, .inr (6, [.int (fd 0), .ref aS, .ref aZ, .ref aV, .int (fd 4), .ref aN, .int (fd 6), .ref aU, .int (fd 8), .int (nI (at9 + j + 4)), .int (nI 1), .ref aD, .int (fd 12), .int (fd 13), .int (fd 14), .long hh]))], wU, [(aD, .inl (cI, 64, .inl (upd (upd fr1 (3 * ps.length) (nI 1)) (3 * ps.length + 1) (nI (at9 + 4)))))]]) C (c_X7_in l hZ hI (nI (k_sg tx (at9 + j + 4))) (nI 97) (nI 108)) gX7_readsPart_X7_in rfl rfl rfl (by decide +kernel) B.1 ⟨Nat.le_of_ble_eq_true rfl, Nat.le_of_ble_eq_true rfl⟩ rfl rfl (Nat.le_of_ble_eq_true rfl) dX7_readsPart_88 ⟨Nat.le_of_ble_eq_true rfl, Nat.le_of_ble_eq_true rfl⟩ [] [0, 1, 2] (by decide : ([] ++ ([0, 1, 2] : List Nat)).Perm (List.range 3)) rfl rfl 91 rfl (fun v0 R0 t0 ht0 hp0 => ?_)
              obtain ⟨rfl, rfl⟩ := hp0
              refine q_eqs (st' := [.int (q_b (decide ((nI 97) ≤ (nI (k_sg tx (at9 + j + 4))) ∧ (nI (k_sg tx (at9 + j + 4))) ≤ (nI 108))))]) rfl ?_
              refine q_eqR (Rs' := [[(h0, .inr (6, [.int (fd 0), .ref aS, .ref aZ, .ref aV, .int (fd 4), .ref aN, .int (fd 6), .ref aU, .int (fd 8), .int (nI (at9 + j + 4)), .int (nI 1), .ref aD, .int (fd 12), .int (fd 13), .int (fd 14), .long hh]))], wU, [(aD, .inl (cI, 64, .inl (upd (upd fr1 (3 * ps.length) (nI 1)) (3 * ps.length + 1) (nI (at9 + 4)))))]]) rfl ?_
              refine q_if_eq (P := ¬ (97 ≤ k_sg tx (at9 + j + 4) ∧ k_sg tx (at9 + j + 4) ≤ 108)) C dX7_readsPart_91 94 107 rfl (by decide) (k_in_iff (by omega) (by omega) (by omega)) (fun h91 => ?_) (fun h91 => ?_)
              · refine q_aload_n C dX7_readsPart_107 108 1 rfl rfl ?_
                refine q_get (k := 0) (j := 0) (f := 11) C hinX7 f25 (fun _ h => h) (by decide) rfl dX7_readsPart_108 111 rfl rfl rfl rfl ?_
                refine q_iload_n C dX7_readsPart_111 112 0 rfl rfl ?_
                refine q_iconst (v := nI 2) C dX7_readsPart_112 113 rfl (by decide) ?_
                refine q_iadd (v := nI (3 * ps.length + 2)) C dX7_readsPart_113 114 rfl (q_nadd (by omega)) ?_
                refine q_aload_n C dX7_readsPart_114 115 1 rfl rfl ?_
                refine q_get (k := 0) (j := 0) (f := 9) C hinX7 f132 (fun _ h => h) (by decide) rfl dX7_readsPart_115 118 rfl rfl rfl rfl ?_
                refine q_aload_n C dX7_readsPart_118 119 1 rfl rfl ?_
                refine q_get (k := 0) (j := 0) (f := 11) C hinX7 f25 (fun _ h => h) (by decide) rfl dX7_readsPart_119 122 rfl rfl rfl rfl ?_
                refine q_iload_n C dX7_readsPart_122 123 0 rfl rfl ?_
                refine q_iconst (v := nI 1) C dX7_readsPart_123 124 rfl (by decide) ?_
                refine q_iadd (v := nI (3 * ps.length + 1)) C dX7_readsPart_124 125 rfl (q_nadd (by omega)) ?_
                refine q_iald (k := 2) (j := 0) (v := nI (at9 + 4)) C dX7_readsPart_125 126 rfl rfl rfl hcI (3 * ps.length + 1) rfl (by omega) (by decide) (by rw [pk_us]) ?_
                refine q_isub (v := nI j) C dX7_readsPart_126 127 rfl (q_nsub (by omega) (by omega)) ?_
                refine q_iast (k := 2) (j := 0) C dX7_readsPart_127 128 rfl rfl rfl hcI (3 * ps.length + 2) rfl (by omega) (by decide) [[(h0, .inr (6, [.int (fd 0), .ref aS, .ref aZ, .ref aV, .int (fd 4), .ref aN, .int (fd 6), .ref aU, .int (fd 8), .int (nI (at9 + j + 4)), .int (nI 1), .ref aD, .int (fd 12), .int (fd 13), .int (fd 14), .long hh]))], wU, [(aD, .inl (cI, 64, .inl (upd (upd (upd fr1 (3 * ps.length) (nI 1)) (3 * ps.length + 1) (nI (at9 + 4))) (3 * ps.length + 2) (nI j))))]] rfl ?_
                have hEs12 : k_isE cI aD (upd (upd (upd fr1 (3 * ps.length) (nI 1)) (3 * ps.length + 1) (nI (at9 + 4))) (3 * ps.length + 2) (nI j)) [(aD, .inl (cI, 64, .inl (upd (upd (upd fr1 (3 * ps.length) (nI 1)) (3 * ps.length + 1) (nI (at9 + 4))) (3 * ps.length + 2) (nI j))))] := rfl
                refine q_goto C dX7_readsPart_128 194 (by decide) ?_
                refine q_aload_n C dX7_readsPart_194 195 1 rfl rfl ?_
                refine q_dup C dX7_readsPart_195 196 rfl rfl ?_
                refine q_get (k := 0) (j := 0) (f := 12) C hinX7 f153 (fun _ h => h) (by decide) rfl dX7_readsPart_196 199 rfl rfl rfl rfl ?_
                refine q_eqs (st' := [.int (nI ps.length), .ref h0]) (by show ([.int (fd 12), .ref h0] : List Value) = _; rw [q12]) ?_
                refine q_aload_n C dX7_readsPart_199 200 1 rfl rfl ?_
                refine q_get (k := 0) (j := 0) (f := 10) C hinX7 f135 (fun _ h => h) (by decide) rfl dX7_readsPart_200 203 rfl rfl rfl rfl ?_
                refine q_if_eq C dX7_readsPart_203 206 210 rfl (by decide) (q_eq0 (by omega)) (fun h203 => False.elim (by first | omega | simp_all)) (fun h203 => ?_)
                refine q_iconst (v := nI 1) C dX7_readsPart_206 207 rfl (by decide) ?_
                refine q_goto C dX7_readsPart_207 211 (by decide) ?_
                refine q_iadd (v := nI (ps.length + 1)) C dX7_readsPart_211 212 rfl (q_nadd (by omega)) ?_
                refine q_put (k := 0) (j := 0) (f := 12) C hinX7 tyX7 tyX7_ok nmX7 f153 (fun _ h => h) (by decide) rfl rfl (tyX7_ok 12 (by decide)) rfl rfl dX7_readsPart_212 215 rfl rfl rfl (Nat.le_of_ble_eq_true rfl) [[(h0, .inr (6, [.int (fd 0), .ref aS, .ref aZ, .ref aV, .int (fd 4), .ref aN, .int (fd 6), .ref aU, .int (fd 8), .int (nI (at9 + j + 4)), .int (nI 1), .ref aD, .int (nI (ps.length + 1)), .int (fd 13), .int (fd 14), .long hh]))], wU, [(aD, .inl (cI, 64, .inl (upd (upd (upd fr1 (3 * ps.length) (nI 1)) (3 * ps.length + 1) (nI (at9 + 4))) (3 * ps.length + 2) (nI j))))]] rfl ?_
                have hPp13 : k_isP cI h0 aS aZ aV aN aU aD (upd (upd (upd fd 10 (nI 1)) 9 (nI (at9 + j + 4))) 12 (nI (ps.length + 1))) hh [(h0, .inr (6, [.int (fd 0), .ref aS, .ref aZ, .ref aV, .int (fd 4), .ref aN, .int (fd 6), .ref aU, .int (fd 8), .int (nI (at9 + j + 4)), .int (nI 1), .ref aD, .int (nI (ps.length + 1)), .int (fd 13), .int (fd 14), .long hh]))] := rfl
                obtain ⟨hmx0, hokp0⟩ := k_mx_full (r := j) hk hp (by show k_lw tx 60 (at9 + 4) = j; rw [hlw, k_lw_0 h91]; rfl)
                have hmx : k_mx tx at9 = at9 + j + 4 := hmx0.trans (by show at9 + 4 + j = at9 + j + 4; omega)
                have hokp : k_okp tx at9 = true := hokp0.trans (decide_eq_true (by show 5 ≤ 4 + j; omega))
                exact q_vret C B dX7_readsPart_215 rfl rfl (fun t0 ht0 => ⟨rfl, _, by rw [hokp, hmx, k_ap_t hokp, List.length_append, List.length_singleton]; exact hPp13, _, by rw [k_ap_t hokp]; exact ⟨_, k_RDs_add hrd1 (fun q hq => by repeat rw [pk_un (by omega)]) ⟨by rw [hk]; repeat (first | rw [pk_us] | rw [pk_un (by omega)]), fun _ => ⟨by repeat (first | rw [pk_us] | rw [pk_un (by omega)]), by rw [pk_us, hlw, k_lw_0 h91]; rfl⟩, fun e => absurd (hk.symm.trans e) (by decide), fun e => absurd (hk.symm.trans e) (by decide), fun e => absurd (hk.symm.trans e) (by decide)⟩, rfl⟩, rfl⟩)
              · refine q_aload_n C dX7_readsPart_94 95 1 rfl rfl ?_
                refine q_dup C dX7_readsPart_95 96 rfl rfl ?_
                refine q_get (k := 0) (j := 0) (f := 9) C hinX7 f132 (fun _ h => h) (by decide) rfl dX7_readsPart_96 99 rfl rfl rfl rfl ?_
                refine q_iconst (v := nI 1) C dX7_readsPart_99 100 rfl (by decide) ?_
                refine q_iadd (v := nI (at9 + j + 5)) C dX7_readsPart_100 101 rfl (q_nadd (by omega)) ?_
                refine q_put (k := 0) (j := 0) (f := 9) C hinX7 tyX7 tyX7_ok nmX7 f132 (fun _ h => h) (by decide) rfl rfl (tyX7_ok 9 (by decide)) rfl rfl dX7_readsPart_101 104 rfl rfl rfl (Nat.le_of_ble_eq_true rfl) [[(h0, .inr (6, [.int (fd 0), .ref aS, .ref aZ, .ref aV, .int (fd 4), .ref aN, .int (fd 6), .ref aU, .int (fd 8), .int (nI (at9 + j + 5)), .int (nI 1), .ref aD, .int (fd 12), .int (fd 13), .int (fd 14), .long hh]))], wU, [(aD, .inl (cI, 64, .inl (upd (upd fr1 (3 * ps.length) (nI 1)) (3 * ps.length + 1) (nI (at9 + 4)))))]] rfl ?_
                have hPp14 : k_isP cI h0 aS aZ aV aN aU aD (upd (upd (upd fd 10 (nI 1)) 9 (nI (at9 + j + 4))) 9 (nI (at9 + j + 5))) hh [(h0, .inr (6, [.int (fd 0), .ref aS, .ref aZ, .ref aV, .int (fd 4), .ref aN, .int (fd 6), .ref aU, .int (fd 8), .int (nI (at9 + j + 5)), .int (nI 1), .ref aD, .int (fd 12), .int (fd 13), .int (fd 14), .long hh]))] := rfl
                refine q_goto C dX7_readsPart_104 73 (by decide) ?_
                refine q_sub (L' := [(1, .int (nI (3 * ps.length))), (0, .ref h0)]) [0, 1] rfl ?_
                exact ih_lp (j + 1) ([(h0, .inr (6, [.int (fd 0), .ref aS, .ref aZ, .ref aV, .int (fd 4), .ref aN, .int (fd 6), .ref aU, .int (fd 8), .int (nI (at9 + j + 5)), .int (nI 1), .ref aD, .int (fd 12), .int (fd 13), .int (fd 14), .long hh]))]) (by omega) (by omega) (by have := k_sg_pos (tx := tx) (i := at9 + j + 4) (by omega); omega) (by have := k_sg_pos (tx := tx) (i := at9 + j + 4) (by omega); omega) (by rw [show 60 - j = 60 - (j + 1) + 1 by omega, k_lw_1 (m := 60 - (j + 1)) (i := at9 + j + 4) ⟨by omega, by omega⟩, show at9 + j + 4 + 1 = at9 + (j + 1) + 4 by omega] at hlw; omega) (by rw [show at9 + (j + 1) + 4 = at9 + j + 5 by omega]; exact hPp14)
          refine q_sub (L' := [(1, .int (nI (3 * ps.length))), (0, .ref h0)]) [0, 1] rfl ?_
          exact lp _ 1 wP_69 (Nat.lt_succ_self _) (by omega) (by omega) (by have := k_sg_pos (tx := tx) (i := at9 + 4) (by omega); omega) (k_lw_1 hL) hPk5
        · have hPk6 : k_isP cI h0 aS aZ aV aN aU aD (upd (upd fd 10 (nI 0)) 9 (nI (at9 + 4))) hh wP_69 := by have hz := hwP_69; rw [k_lp_f2 hL] at hz; exact hz
          refine q_pop C dX7_readsPart_72 73 rfl rfl ?_
          refine q_aload_n C dX7_readsPart_73 74 1 rfl rfl ?_
          obtain rfl := hPk6
          have hPo15 : k_isP cI h0 aS aZ aV aN aU aD (upd (upd fd 10 (nI 0)) 9 (nI (at9 + 4))) hh [(h0, .inr (6, [.int (fd 0), .ref aS, .ref aZ, .ref aV, .int (fd 4), .ref aN, .int (fd 6), .ref aU, .int (fd 8), .int (nI (at9 + 4)), .int (nI 0), .ref aD, .int (fd 12), .int (fd 13), .int (fd 14), .long hh]))] := rfl
          refine q_get (k := 0) (j := 0) (f := 10) C hinX7 f135 (fun _ h => h) (by decide) rfl dX7_readsPart_74 77 rfl rfl rfl rfl ?_
          refine q_if_eq C dX7_readsPart_77 80 107 rfl (by decide) (q_eq0 (by omega)) (fun h77 => ?_) (fun h77 => False.elim (by first | omega | simp_all))
          refine q_aload_n C dX7_readsPart_107 108 1 rfl rfl ?_
          refine q_get (k := 0) (j := 0) (f := 11) C hinX7 f25 (fun _ h => h) (by decide) rfl dX7_readsPart_108 111 rfl rfl rfl rfl ?_
          refine q_iload_n C dX7_readsPart_111 112 0 rfl rfl ?_
          refine q_iconst (v := nI 2) C dX7_readsPart_112 113 rfl (by decide) ?_
          refine q_iadd (v := nI (3 * ps.length + 2)) C dX7_readsPart_113 114 rfl (q_nadd (by omega)) ?_
          refine q_aload_n C dX7_readsPart_114 115 1 rfl rfl ?_
          refine q_get (k := 0) (j := 0) (f := 9) C hinX7 f132 (fun _ h => h) (by decide) rfl dX7_readsPart_115 118 rfl rfl rfl rfl ?_
          refine q_aload_n C dX7_readsPart_118 119 1 rfl rfl ?_
          refine q_get (k := 0) (j := 0) (f := 11) C hinX7 f25 (fun _ h => h) (by decide) rfl dX7_readsPart_119 122 rfl rfl rfl rfl ?_
          refine q_iload_n C dX7_readsPart_122 123 0 rfl rfl ?_
          refine q_iconst (v := nI 1) C dX7_readsPart_123 124 rfl (by decide) ?_
          refine q_iadd (v := nI (3 * ps.length + 1)) C dX7_readsPart_124 125 rfl (q_nadd (by omega)) ?_
          refine q_iald (k := 2) (j := 0) (v := nI (at9 + 4)) C dX7_readsPart_125 126 rfl rfl rfl hcI (3 * ps.length + 1) rfl (by omega) (by decide) (by rw [pk_us]) ?_
          refine q_isub (v := nI 0) C dX7_readsPart_126 127 rfl (q_nsub (by omega) (by omega)) ?_
          refine q_iast (k := 2) (j := 0) C dX7_readsPart_127 128 rfl rfl rfl hcI (3 * ps.length + 2) rfl (by omega) (by decide) [[(h0, .inr (6, [.int (fd 0), .ref aS, .ref aZ, .ref aV, .int (fd 4), .ref aN, .int (fd 6), .ref aU, .int (fd 8), .int (nI (at9 + 4)), .int (nI 0), .ref aD, .int (fd 12), .int (fd 13), .int (fd 14), .long hh]))], wU, [(aD, .inl (cI, 64, .inl (upd (upd (upd fr1 (3 * ps.length) (nI 1)) (3 * ps.length + 1) (nI (at9 + 4))) (3 * ps.length + 2) (nI 0))))]] rfl ?_
          have hEs16 : k_isE cI aD (upd (upd (upd fr1 (3 * ps.length) (nI 1)) (3 * ps.length + 1) (nI (at9 + 4))) (3 * ps.length + 2) (nI 0)) [(aD, .inl (cI, 64, .inl (upd (upd (upd fr1 (3 * ps.length) (nI 1)) (3 * ps.length + 1) (nI (at9 + 4))) (3 * ps.length + 2) (nI 0))))] := rfl
          refine q_goto C dX7_readsPart_128 194 (by decide) ?_
          refine q_aload_n C dX7_readsPart_194 195 1 rfl rfl ?_
          refine q_dup C dX7_readsPart_195 196 rfl rfl ?_
          refine q_get (k := 0) (j := 0) (f := 12) C hinX7 f153 (fun _ h => h) (by decide) rfl dX7_readsPart_196 199 rfl rfl rfl rfl ?_
          refine q_eqs (st' := [.int (nI ps.length), .ref h0]) (by show ([.int (fd 12), .ref h0] : List Value) = _; rw [q12]) ?_
          refine q_aload_n C dX7_readsPart_199 200 1 rfl rfl ?_
          refine q_get (k := 0) (j := 0) (f := 10) C hinX7 f135 (fun _ h => h) (by decide) rfl dX7_readsPart_200 203 rfl rfl rfl rfl ?_
          refine q_if_eq C dX7_readsPart_203 206 210 rfl (by decide) (q_eq0 (by omega)) (fun h203 => ?_) (fun h203 => False.elim (by first | omega | simp_all))
          refine q_iconst (v := nI 0) C dX7_readsPart_210 211 rfl (by decide) ?_
          refine q_iadd (v := nI ps.length) C dX7_readsPart_211 212 rfl (q_nadd (by omega)) ?_
          refine q_put (k := 0) (j := 0) (f := 12) C hinX7 tyX7 tyX7_ok nmX7 f153 (fun _ h => h) (by decide) rfl rfl (tyX7_ok 12 (by decide)) rfl rfl dX7_readsPart_212 215 rfl rfl rfl (Nat.le_of_ble_eq_true rfl) [[(h0, .inr (6, [.int (fd 0), .ref aS, .ref aZ, .ref aV, .int (fd 4), .ref aN, .int (fd 6), .ref aU, .int (fd 8), .int (nI (at9 + 4)), .int (nI 0), .ref aD, .int (nI ps.length), .int (fd 13), .int (fd 14), .long hh]))], wU, [(aD, .inl (cI, 64, .inl (upd (upd (upd fr1 (3 * ps.length) (nI 1)) (3 * ps.length + 1) (nI (at9 + 4))) (3 * ps.length + 2) (nI 0))))]] rfl ?_
          have hPp17 : k_isP cI h0 aS aZ aV aN aU aD (upd (upd (upd fd 10 (nI 0)) 9 (nI (at9 + 4))) 12 (nI ps.length)) hh [(h0, .inr (6, [.int (fd 0), .ref aS, .ref aZ, .ref aV, .int (fd 4), .ref aN, .int (fd 6), .ref aU, .int (fd 8), .int (nI (at9 + 4)), .int (nI 0), .ref aD, .int (nI ps.length), .int (fd 13), .int (fd 14), .long hh]))] := rfl
          obtain ⟨hmx0, hokp0⟩ := k_mx_full (r := 0) hk hp (k_lw_0 hL)
          have hmx : k_mx tx at9 = at9 + 4 := hmx0.trans (by show at9 + 4 + 0 = at9 + 4; omega)
          have hokp : k_okp tx at9 = false := hokp0.trans (decide_eq_false (by show ¬ 5 ≤ 4 + 0; omega))
          exact q_vret C B dX7_readsPart_215 rfl rfl (fun t0 ht0 => ⟨rfl, _, by rw [hokp, hmx, k_ap_f hokp]; exact hPp17, _, by rw [k_ap_f hokp]; exact ⟨_, k_RDs_keep hrd1 (fun q hq => by repeat rw [pk_un (by omega)]), rfl⟩, rfl⟩)
  · refine q_eqs (st' := [.int (nI 2), .int (nI (3 * ps.length)), .ref aD]) (by rw [hk]) ?_
    refine q_iast (k := 2) (j := 0) C dX7_readsPart_16 17 rfl rfl rfl hcI (3 * ps.length) rfl (by omega) (by decide) [wP_13, wU, [(aD, .inl (cI, 64, .inl (upd fr1 (3 * ps.length) (nI 2))))]] rfl ?_
    have hEs18 : k_isE cI aD (upd fr1 (3 * ps.length) (nI 2)) [(aD, .inl (cI, 64, .inl (upd fr1 (3 * ps.length) (nI 2))))] := rfl
    rcases Nat.lt_or_ge (k_pw tx (k_wo 2) at9) (k_wo 2).length with hp | hp
    · have hPk7 : k_isP cI h0 aS aZ aV aN aU aD (upd (upd fd 10 (nI 0)) 9 (nI (at9 + k_pw tx (k_wo 2) at9))) hh wP_13 := by have hz := hwP_13; rw [hk, k_wl_part hp] at hz; exact hz
      have hpl : k_pw tx (k_wo 2) at9 ≤ 3 := Nat.le_of_lt hp
      refine q_aload_n C dX7_readsPart_17 18 1 rfl rfl ?_
      obtain rfl := hPk7
      have hPo19 : k_isP cI h0 aS aZ aV aN aU aD (upd (upd fd 10 (nI 0)) 9 (nI (at9 + k_pw tx (k_wo 2) at9))) hh [(h0, .inr (6, [.int (fd 0), .ref aS, .ref aZ, .ref aV, .int (fd 4), .ref aN, .int (fd 6), .ref aU, .int (fd 8), .int (nI (at9 + k_pw tx (k_wo 2) at9)), .int (nI 0), .ref aD, .int (fd 12), .int (fd 13), .int (fd 14), .long hh]))] := rfl
      refine q_get (k := 0) (j := 0) (f := 11) C hinX7 f25 (fun _ h => h) (by decide) rfl dX7_readsPart_18 21 rfl rfl rfl rfl ?_
      refine q_iload_n C dX7_readsPart_21 22 0 rfl rfl ?_
      refine q_iald (k := 2) (j := 0) (v := nI 2) C dX7_readsPart_22 23 rfl rfl rfl hcI (3 * ps.length) rfl (by omega) (by decide) (by rw [pk_us]) ?_
      · refine q_tableIn C dX7_readsPart_23 131 (by decide) (by decide) rfl (by decide) ?_
        refine q_aload_n C dX7_readsPart_131 132 1 rfl rfl ?_
        refine q_get (k := 0) (j := 0) (f := 11) C hinX7 f25 (fun _ h => h) (by decide) rfl dX7_readsPart_132 135 rfl rfl rfl rfl ?_
        refine q_iload_n C dX7_readsPart_135 136 0 rfl rfl ?_
        refine q_iconst (v := nI 1) C dX7_readsPart_136 137 rfl (by decide) ?_
        refine q_iadd (v := nI (3 * ps.length + 1)) C dX7_readsPart_137 138 rfl (q_nadd (by omega)) ?_
        refine q_aload_n C dX7_readsPart_138 139 1 rfl rfl ?_
        refine q_iconst (v := nI 0) C dX7_readsPart_139 140 rfl (by decide) ?_
        refine q_bipush (v := nI 40) C dX7_readsPart_140 142 rfl (by decide) ?_
        refine q_callV (k := 0) (ci := 6) (n := 2) (rest := [.int (nI (3 * ps.length + 1)), .ref aD]) (Rr := [[(aD, .inl (cI, 64, .inl (upd fr1 (3 * ps.length) (nI 2))))]]) C rfl (k_isP_recv hPo19) rfl (c_X7_number l hZ hI h0 aS aZ aV aN aU aD (upd (upd fd 10 (nI 0)) 9 (nI (at9 + k_pw tx (k_wo 2) at9))) hh ([(h0, .inr (6, [.int (fd 0), .ref aS, .ref aZ, .ref aV, .int (fd 4), .ref aN, .int (fd 6), .ref aU, .int (fd 8), .int (nI (at9 + k_pw tx (k_wo 2) at9)), .int (nI 0), .ref aD, .int (fd 12), .int (fd 13), .int (fd 14), .long hh]))]) hPo19 tx wU hU 0 40 (at9 + k_pw tx (k_wo 2) at9) false (by first | exact q8 | rfl) (by first | exact q9 | rfl) (by first | exact q10 | rfl) (by omega) (by omega) (by omega)) gX7_readsPart_X7_number rfl rfl rfl (by decide +kernel) B.1 ⟨Nat.le_of_ble_eq_true rfl, Nat.le_of_ble_eq_true rfl⟩ rfl rfl (Nat.le_of_ble_eq_true rfl) dX7_readsPart_142 ⟨Nat.le_of_ble_eq_true rfl, Nat.le_of_ble_eq_true rfl⟩ [0, 1] [2] (by decide : ([0, 1] ++ ([2] : List Nat)).Perm (List.range 3)) rfl rfl 145 rfl (fun v0 R0 t0 ht0 hp0 => ?_)
        obtain ⟨rfl, wP_142, hwP_142, rfl⟩ := hp0
        refine q_eqs (st' := [.int (k_nr tx 0 40 ((at9 + k_pw tx (k_wo 2) at9), false)), .int (nI (3 * ps.length + 1)), .ref aD]) rfl ?_
        refine q_eqR (Rs' := [wP_142, wU, [(aD, .inl (cI, 64, .inl (upd fr1 (3 * ps.length) (nI 2))))]]) rfl ?_
        have hPk9 : k_isP cI h0 aS aZ aV aN aU aD (upd (upd fd 10 (nI 0)) 9 (nI (at9 + k_pw tx (k_wo 2) at9))) hh wP_142 := by have hz := hwP_142; rw [k_nq_f1 rfl] at hz; exact hz
        refine q_iast (k := 2) (j := 0) C dX7_readsPart_145 146 rfl rfl rfl hcI (3 * ps.length + 1) rfl (by omega) (by decide) [wP_142, wU, [(aD, .inl (cI, 64, .inl (upd (upd fr1 (3 * ps.length) (nI 2)) (3 * ps.length + 1) (k_nr tx 0 40 ((at9 + k_pw tx (k_wo 2) at9), false)))))]] rfl ?_
        have hEs20 : k_isE cI aD (upd (upd fr1 (3 * ps.length) (nI 2)) (3 * ps.length + 1) (k_nr tx 0 40 ((at9 + k_pw tx (k_wo 2) at9), false))) [(aD, .inl (cI, 64, .inl (upd (upd fr1 (3 * ps.length) (nI 2)) (3 * ps.length + 1) (k_nr tx 0 40 ((at9 + k_pw tx (k_wo 2) at9), false)))))] := rfl
        refine q_goto C dX7_readsPart_146 194 (by decide) ?_
        refine q_aload_n C dX7_readsPart_194 195 1 rfl rfl ?_
        refine q_dup C dX7_readsPart_195 196 rfl rfl ?_
        obtain rfl := hPk9
        have hPo21 : k_isP cI h0 aS aZ aV aN aU aD (upd (upd fd 10 (nI 0)) 9 (nI (at9 + k_pw tx (k_wo 2) at9))) hh [(h0, .inr (6, [.int (fd 0), .ref aS, .ref aZ, .ref aV, .int (fd 4), .ref aN, .int (fd 6), .ref aU, .int (fd 8), .int (nI (at9 + k_pw tx (k_wo 2) at9)), .int (nI 0), .ref aD, .int (fd 12), .int (fd 13), .int (fd 14), .long hh]))] := rfl
        refine q_get (k := 0) (j := 0) (f := 12) C hinX7 f153 (fun _ h => h) (by decide) rfl dX7_readsPart_196 199 rfl rfl rfl rfl ?_
        refine q_eqs (st' := [.int (nI ps.length), .ref h0]) (by show ([.int (fd 12), .ref h0] : List Value) = _; rw [q12]) ?_
        refine q_aload_n C dX7_readsPart_199 200 1 rfl rfl ?_
        refine q_get (k := 0) (j := 0) (f := 10) C hinX7 f135 (fun _ h => h) (by decide) rfl dX7_readsPart_200 203 rfl rfl rfl rfl ?_
        refine q_if_eq C dX7_readsPart_203 206 210 rfl (by decide) (q_eq0 (by omega)) (fun h203 => ?_) (fun h203 => False.elim (by first | omega | simp_all))
        refine q_iconst (v := nI 0) C dX7_readsPart_210 211 rfl (by decide) ?_
        refine q_iadd (v := nI ps.length) C dX7_readsPart_211 212 rfl (q_nadd (by omega)) ?_
        refine q_put (k := 0) (j := 0) (f := 12) C hinX7 tyX7 tyX7_ok nmX7 f153 (fun _ h => h) (by decide) rfl rfl (tyX7_ok 12 (by decide)) rfl rfl dX7_readsPart_212 215 rfl rfl rfl (Nat.le_of_ble_eq_true rfl) [[(h0, .inr (6, [.int (fd 0), .ref aS, .ref aZ, .ref aV, .int (fd 4), .ref aN, .int (fd 6), .ref aU, .int (fd 8), .int (nI (at9 + k_pw tx (k_wo 2) at9)), .int (nI 0), .ref aD, .int (nI ps.length), .int (fd 13), .int (fd 14), .long hh]))], wU, [(aD, .inl (cI, 64, .inl (upd (upd fr1 (3 * ps.length) (nI 2)) (3 * ps.length + 1) (k_nr tx 0 40 ((at9 + k_pw tx (k_wo 2) at9), false)))))]] rfl ?_
        have hPp22 : k_isP cI h0 aS aZ aV aN aU aD (upd (upd (upd fd 10 (nI 0)) 9 (nI (at9 + k_pw tx (k_wo 2) at9))) 12 (nI ps.length)) hh [(h0, .inr (6, [.int (fd 0), .ref aS, .ref aZ, .ref aV, .int (fd 4), .ref aN, .int (fd 6), .ref aU, .int (fd 8), .int (nI (at9 + k_pw tx (k_wo 2) at9)), .int (nI 0), .ref aD, .int (nI ps.length), .int (fd 13), .int (fd 14), .long hh]))] := rfl
        obtain ⟨hmx, hokp⟩ := k_mx_part hk hp (by decide)
        exact q_vret C B dX7_readsPart_215 rfl rfl (fun t0 ht0 => ⟨rfl, _, by rw [hokp, hmx, k_ap_f hokp]; exact hPp22, _, by rw [k_ap_f hokp]; exact ⟨_, k_RDs_keep hrd1 (fun q hq => by repeat rw [pk_un (by omega)]), rfl⟩, rfl⟩)
    · have hPk8 : k_isP cI h0 aS aZ aV aN aU aD (upd (upd fd 10 (nI 1)) 9 (nI (at9 + 3))) hh wP_13 := by have hz := hwP_13; rw [hk, k_wl_full hp] at hz; exact hz
      refine q_aload_n C dX7_readsPart_17 18 1 rfl rfl ?_
      obtain rfl := hPk8
      have hPo23 : k_isP cI h0 aS aZ aV aN aU aD (upd (upd fd 10 (nI 1)) 9 (nI (at9 + 3))) hh [(h0, .inr (6, [.int (fd 0), .ref aS, .ref aZ, .ref aV, .int (fd 4), .ref aN, .int (fd 6), .ref aU, .int (fd 8), .int (nI (at9 + 3)), .int (nI 1), .ref aD, .int (fd 12), .int (fd 13), .int (fd 14), .long hh]))] := rfl
      refine q_get (k := 0) (j := 0) (f := 11) C hinX7 f25 (fun _ h => h) (by decide) rfl dX7_readsPart_18 21 rfl rfl rfl rfl ?_
      refine q_iload_n C dX7_readsPart_21 22 0 rfl rfl ?_
      refine q_iald (k := 2) (j := 0) (v := nI 2) C dX7_readsPart_22 23 rfl rfl rfl hcI (3 * ps.length) rfl (by omega) (by decide) (by rw [pk_us]) ?_
      · refine q_tableIn C dX7_readsPart_23 131 (by decide) (by decide) rfl (by decide) ?_
        refine q_aload_n C dX7_readsPart_131 132 1 rfl rfl ?_
        refine q_get (k := 0) (j := 0) (f := 11) C hinX7 f25 (fun _ h => h) (by decide) rfl dX7_readsPart_132 135 rfl rfl rfl rfl ?_
        refine q_iload_n C dX7_readsPart_135 136 0 rfl rfl ?_
        refine q_iconst (v := nI 1) C dX7_readsPart_136 137 rfl (by decide) ?_
        refine q_iadd (v := nI (3 * ps.length + 1)) C dX7_readsPart_137 138 rfl (q_nadd (by omega)) ?_
        refine q_aload_n C dX7_readsPart_138 139 1 rfl rfl ?_
        refine q_iconst (v := nI 0) C dX7_readsPart_139 140 rfl (by decide) ?_
        refine q_bipush (v := nI 40) C dX7_readsPart_140 142 rfl (by decide) ?_
        refine q_callV (k := 0) (ci := 6) (n := 2) (rest := [.int (nI (3 * ps.length + 1)), .ref aD]) (Rr := [[(aD, .inl (cI, 64, .inl (upd fr1 (3 * ps.length) (nI 2))))]]) C rfl (k_isP_recv hPo23) rfl (c_X7_number l hZ hI h0 aS aZ aV aN aU aD (upd (upd fd 10 (nI 1)) 9 (nI (at9 + 3))) hh ([(h0, .inr (6, [.int (fd 0), .ref aS, .ref aZ, .ref aV, .int (fd 4), .ref aN, .int (fd 6), .ref aU, .int (fd 8), .int (nI (at9 + 3)), .int (nI 1), .ref aD, .int (fd 12), .int (fd 13), .int (fd 14), .long hh]))]) hPo23 tx wU hU 0 40 (at9 + 3) true (by first | exact q8 | rfl) (by first | exact q9 | rfl) (by first | exact q10 | rfl) (by omega) (by omega) (by omega)) gX7_readsPart_X7_number rfl rfl rfl (by decide +kernel) B.1 ⟨Nat.le_of_ble_eq_true rfl, Nat.le_of_ble_eq_true rfl⟩ rfl rfl (Nat.le_of_ble_eq_true rfl) dX7_readsPart_142 ⟨Nat.le_of_ble_eq_true rfl, Nat.le_of_ble_eq_true rfl⟩ [0, 1] [2] (by decide : ([0, 1] ++ ([2] : List Nat)).Perm (List.range 3)) rfl rfl 145 rfl (fun v0 R0 t0 ht0 hp0 => ?_)
        obtain ⟨rfl, wP_142, hwP_142, rfl⟩ := hp0
        refine q_eqs (st' := [.int (k_nr tx 0 40 ((at9 + 3), true)), .int (nI (3 * ps.length + 1)), .ref aD]) rfl ?_
        refine q_eqR (Rs' := [wP_142, wU, [(aD, .inl (cI, 64, .inl (upd fr1 (3 * ps.length) (nI 2))))]]) rfl ?_
        by_cases hN : 48 + 0 ≤ k_sg tx (at9 + 3) ∧ k_sg tx (at9 + 3) ≤ 57
        · have hPk10 : k_isP cI h0 aS aZ aV aN aU aD (upd (upd fd 10 (nI 1)) 9 (nI (at9 + k_dw tx 0 40 (at9 + 3) + 3))) hh wP_142 := by have hz := hwP_142; rw [k_nq_t rfl hN rfl, show at9 + 3 + k_dw tx 0 40 (at9 + 3) = at9 + k_dw tx 0 40 (at9 + 3) + 3 by omega] at hz; exact hz
          refine q_eqs (st' := [.int (nI (k_nv tx 40 (at9 + 3))), .int (nI (3 * ps.length + 1)), .ref aD]) (by rw [k_nr_t rfl hN rfl]) ?_
          have hdw := k_dw_ge (hi := 40) hN
          refine q_iast (k := 2) (j := 0) C dX7_readsPart_145 146 rfl rfl rfl hcI (3 * ps.length + 1) rfl (by omega) (by decide) [wP_142, wU, [(aD, .inl (cI, 64, .inl (upd (upd fr1 (3 * ps.length) (nI 2)) (3 * ps.length + 1) (nI (k_nv tx 40 (at9 + 3))))))]] rfl ?_
          have hEs24 : k_isE cI aD (upd (upd fr1 (3 * ps.length) (nI 2)) (3 * ps.length + 1) (nI (k_nv tx 40 (at9 + 3)))) [(aD, .inl (cI, 64, .inl (upd (upd fr1 (3 * ps.length) (nI 2)) (3 * ps.length + 1) (nI (k_nv tx 40 (at9 + 3))))))] := rfl
          refine q_goto C dX7_readsPart_146 194 (by decide) ?_
          refine q_aload_n C dX7_readsPart_194 195 1 rfl rfl ?_
          refine q_dup C dX7_readsPart_195 196 rfl rfl ?_
          obtain rfl := hPk10
          have hPo25 : k_isP cI h0 aS aZ aV aN aU aD (upd (upd fd 10 (nI 1)) 9 (nI (at9 + k_dw tx 0 40 (at9 + 3) + 3))) hh [(h0, .inr (6, [.int (fd 0), .ref aS, .ref aZ, .ref aV, .int (fd 4), .ref aN, .int (fd 6), .ref aU, .int (fd 8), .int (nI (at9 + k_dw tx 0 40 (at9 + 3) + 3)), .int (nI 1), .ref aD, .int (fd 12), .int (fd 13), .int (fd 14), .long hh]))] := rfl
          refine q_get (k := 0) (j := 0) (f := 12) C hinX7 f153 (fun _ h => h) (by decide) rfl dX7_readsPart_196 199 rfl rfl rfl rfl ?_
          refine q_eqs (st' := [.int (nI ps.length), .ref h0]) (by show ([.int (fd 12), .ref h0] : List Value) = _; rw [q12]) ?_
          refine q_aload_n C dX7_readsPart_199 200 1 rfl rfl ?_
          refine q_get (k := 0) (j := 0) (f := 10) C hinX7 f135 (fun _ h => h) (by decide) rfl dX7_readsPart_200 203 rfl rfl rfl rfl ?_
          refine q_if_eq C dX7_readsPart_203 206 210 rfl (by decide) (q_eq0 (by omega)) (fun h203 => False.elim (by first | omega | simp_all)) (fun h203 => ?_)
          refine q_iconst (v := nI 1) C dX7_readsPart_206 207 rfl (by decide) ?_
          refine q_goto C dX7_readsPart_207 211 (by decide) ?_
          refine q_iadd (v := nI (ps.length + 1)) C dX7_readsPart_211 212 rfl (q_nadd (by omega)) ?_
          refine q_put (k := 0) (j := 0) (f := 12) C hinX7 tyX7 tyX7_ok nmX7 f153 (fun _ h => h) (by decide) rfl rfl (tyX7_ok 12 (by decide)) rfl rfl dX7_readsPart_212 215 rfl rfl rfl (Nat.le_of_ble_eq_true rfl) [[(h0, .inr (6, [.int (fd 0), .ref aS, .ref aZ, .ref aV, .int (fd 4), .ref aN, .int (fd 6), .ref aU, .int (fd 8), .int (nI (at9 + k_dw tx 0 40 (at9 + 3) + 3)), .int (nI 1), .ref aD, .int (nI (ps.length + 1)), .int (fd 13), .int (fd 14), .long hh]))], wU, [(aD, .inl (cI, 64, .inl (upd (upd fr1 (3 * ps.length) (nI 2)) (3 * ps.length + 1) (nI (k_nv tx 40 (at9 + 3))))))]] rfl ?_
          have hPp26 : k_isP cI h0 aS aZ aV aN aU aD (upd (upd (upd fd 10 (nI 1)) 9 (nI (at9 + k_dw tx 0 40 (at9 + 3) + 3))) 12 (nI (ps.length + 1))) hh [(h0, .inr (6, [.int (fd 0), .ref aS, .ref aZ, .ref aV, .int (fd 4), .ref aN, .int (fd 6), .ref aU, .int (fd 8), .int (nI (at9 + k_dw tx 0 40 (at9 + 3) + 3)), .int (nI 1), .ref aD, .int (nI (ps.length + 1)), .int (fd 13), .int (fd 14), .long hh]))] := rfl
          obtain ⟨hmx0, hokp0⟩ := k_mx_full (r := k_dw tx 0 40 (at9 + 3)) hk hp rfl
          have hmx : k_mx tx at9 = at9 + k_dw tx 0 40 (at9 + 3) + 3 := hmx0.trans (by show at9 + 3 + (k_dw tx 0 40 (at9 + 3)) = at9 + k_dw tx 0 40 (at9 + 3) + 3; omega)
          have hokp : k_okp tx at9 = true := hokp0.trans (decide_eq_true (by show 4 ≤ 3 + (k_dw tx 0 40 (at9 + 3)); omega))
          exact q_vret C B dX7_readsPart_215 rfl rfl (fun t0 ht0 => ⟨rfl, _, by rw [hokp, hmx, k_ap_t hokp, List.length_append, List.length_singleton]; exact hPp26, _, by rw [k_ap_t hokp]; exact ⟨_, k_RDs_add hrd1 (fun q hq => by repeat rw [pk_un (by omega)]) ⟨by rw [hk]; repeat (first | rw [pk_us] | rw [pk_un (by omega)]), fun e => absurd (hk.symm.trans e) (by decide), fun _ => by rw [pk_us], fun e => absurd (hk.symm.trans e) (by decide), fun e => absurd (hk.symm.trans e) (by decide)⟩, rfl⟩, rfl⟩)
        · have hPk11 : k_isP cI h0 aS aZ aV aN aU aD (upd (upd fd 10 (nI 0)) 9 (nI (at9 + 3))) hh wP_142 := by have hz := hwP_142; rw [k_nq_f2 hN] at hz; exact hz
          refine q_iast (k := 2) (j := 0) C dX7_readsPart_145 146 rfl rfl rfl hcI (3 * ps.length + 1) rfl (by omega) (by decide) [wP_142, wU, [(aD, .inl (cI, 64, .inl (upd (upd fr1 (3 * ps.length) (nI 2)) (3 * ps.length + 1) (k_nr tx 0 40 ((at9 + 3), true)))))]] rfl ?_
          have hEs27 : k_isE cI aD (upd (upd fr1 (3 * ps.length) (nI 2)) (3 * ps.length + 1) (k_nr tx 0 40 ((at9 + 3), true))) [(aD, .inl (cI, 64, .inl (upd (upd fr1 (3 * ps.length) (nI 2)) (3 * ps.length + 1) (k_nr tx 0 40 ((at9 + 3), true)))))] := rfl
          refine q_goto C dX7_readsPart_146 194 (by decide) ?_
          refine q_aload_n C dX7_readsPart_194 195 1 rfl rfl ?_
          refine q_dup C dX7_readsPart_195 196 rfl rfl ?_
          obtain rfl := hPk11
          have hPo28 : k_isP cI h0 aS aZ aV aN aU aD (upd (upd fd 10 (nI 0)) 9 (nI (at9 + 3))) hh [(h0, .inr (6, [.int (fd 0), .ref aS, .ref aZ, .ref aV, .int (fd 4), .ref aN, .int (fd 6), .ref aU, .int (fd 8), .int (nI (at9 + 3)), .int (nI 0), .ref aD, .int (fd 12), .int (fd 13), .int (fd 14), .long hh]))] := rfl
          refine q_get (k := 0) (j := 0) (f := 12) C hinX7 f153 (fun _ h => h) (by decide) rfl dX7_readsPart_196 199 rfl rfl rfl rfl ?_
          refine q_eqs (st' := [.int (nI ps.length), .ref h0]) (by show ([.int (fd 12), .ref h0] : List Value) = _; rw [q12]) ?_
          refine q_aload_n C dX7_readsPart_199 200 1 rfl rfl ?_
          refine q_get (k := 0) (j := 0) (f := 10) C hinX7 f135 (fun _ h => h) (by decide) rfl dX7_readsPart_200 203 rfl rfl rfl rfl ?_
          refine q_if_eq C dX7_readsPart_203 206 210 rfl (by decide) (q_eq0 (by omega)) (fun h203 => ?_) (fun h203 => False.elim (by first | omega | simp_all))
          refine q_iconst (v := nI 0) C dX7_readsPart_210 211 rfl (by decide) ?_
          refine q_iadd (v := nI ps.length) C dX7_readsPart_211 212 rfl (q_nadd (by omega)) ?_
          refine q_put (k := 0) (j := 0) (f := 12) C hinX7 tyX7 tyX7_ok nmX7 f153 (fun _ h => h) (by decide) rfl rfl (tyX7_ok 12 (by decide)) rfl rfl dX7_readsPart_212 215 rfl rfl rfl (Nat.le_of_ble_eq_true rfl) [[(h0, .inr (6, [.int (fd 0), .ref aS, .ref aZ, .ref aV, .int (fd 4), .ref aN, .int (fd 6), .ref aU, .int (fd 8), .int (nI (at9 + 3)), .int (nI 0), .ref aD, .int (nI ps.length), .int (fd 13), .int (fd 14), .long hh]))], wU, [(aD, .inl (cI, 64, .inl (upd (upd fr1 (3 * ps.length) (nI 2)) (3 * ps.length + 1) (k_nr tx 0 40 ((at9 + 3), true)))))]] rfl ?_
          have hPp29 : k_isP cI h0 aS aZ aV aN aU aD (upd (upd (upd fd 10 (nI 0)) 9 (nI (at9 + 3))) 12 (nI ps.length)) hh [(h0, .inr (6, [.int (fd 0), .ref aS, .ref aZ, .ref aV, .int (fd 4), .ref aN, .int (fd 6), .ref aU, .int (fd 8), .int (nI (at9 + 3)), .int (nI 0), .ref aD, .int (nI ps.length), .int (fd 13), .int (fd 14), .long hh]))] := rfl
          obtain ⟨hmx0, hokp0⟩ := k_mx_full (r := 0) hk hp (k_dw_0 hN)
          have hmx : k_mx tx at9 = at9 + 3 := hmx0.trans (by show at9 + 3 + 0 = at9 + 3; omega)
          have hokp : k_okp tx at9 = false := hokp0.trans (decide_eq_false (by show ¬ 4 ≤ 3 + 0; omega))
          exact q_vret C B dX7_readsPart_215 rfl rfl (fun t0 ht0 => ⟨rfl, _, by rw [hokp, hmx, k_ap_f hokp]; exact hPp29, _, by rw [k_ap_f hokp]; exact ⟨_, k_RDs_keep hrd1 (fun q hq => by repeat rw [pk_un (by omega)]), rfl⟩, rfl⟩)
  · refine q_eqs (st' := [.int (nI 3), .int (nI (3 * ps.length)), .ref aD]) (by rw [hk]) ?_
    refine q_iast (k := 2) (j := 0) C dX7_readsPart_16 17 rfl rfl rfl hcI (3 * ps.length) rfl (by omega) (by decide) [wP_13, wU, [(aD, .inl (cI, 64, .inl (upd fr1 (3 * ps.length) (nI 3))))]] rfl ?_
    have hEs30 : k_isE cI aD (upd fr1 (3 * ps.length) (nI 3)) [(aD, .inl (cI, 64, .inl (upd fr1 (3 * ps.length) (nI 3))))] := rfl
    rcases Nat.lt_or_ge (k_pw tx (k_wo 3) at9) (k_wo 3).length with hp | hp
    · have hPk12 : k_isP cI h0 aS aZ aV aN aU aD (upd (upd fd 10 (nI 0)) 9 (nI (at9 + k_pw tx (k_wo 3) at9))) hh wP_13 := by have hz := hwP_13; rw [hk, k_wl_part hp] at hz; exact hz
      have hpl : k_pw tx (k_wo 3) at9 ≤ 4 := Nat.le_of_lt hp
      refine q_aload_n C dX7_readsPart_17 18 1 rfl rfl ?_
      obtain rfl := hPk12
      have hPo31 : k_isP cI h0 aS aZ aV aN aU aD (upd (upd fd 10 (nI 0)) 9 (nI (at9 + k_pw tx (k_wo 3) at9))) hh [(h0, .inr (6, [.int (fd 0), .ref aS, .ref aZ, .ref aV, .int (fd 4), .ref aN, .int (fd 6), .ref aU, .int (fd 8), .int (nI (at9 + k_pw tx (k_wo 3) at9)), .int (nI 0), .ref aD, .int (fd 12), .int (fd 13), .int (fd 14), .long hh]))] := rfl
      refine q_get (k := 0) (j := 0) (f := 11) C hinX7 f25 (fun _ h => h) (by decide) rfl dX7_readsPart_18 21 rfl rfl rfl rfl ?_
      refine q_iload_n C dX7_readsPart_21 22 0 rfl rfl ?_
      refine q_iald (k := 2) (j := 0) (v := nI 3) C dX7_readsPart_22 23 rfl rfl rfl hcI (3 * ps.length) rfl (by omega) (by decide) (by rw [pk_us]) ?_
      · refine q_tableIn C dX7_readsPart_23 194 (by decide) (by decide) rfl (by decide) ?_
        refine q_aload_n C dX7_readsPart_194 195 1 rfl rfl ?_
        refine q_dup C dX7_readsPart_195 196 rfl rfl ?_
        refine q_get (k := 0) (j := 0) (f := 12) C hinX7 f153 (fun _ h => h) (by decide) rfl dX7_readsPart_196 199 rfl rfl rfl rfl ?_
        refine q_eqs (st' := [.int (nI ps.length), .ref h0]) (by show ([.int (fd 12), .ref h0] : List Value) = _; rw [q12]) ?_
        refine q_aload_n C dX7_readsPart_199 200 1 rfl rfl ?_
        refine q_get (k := 0) (j := 0) (f := 10) C hinX7 f135 (fun _ h => h) (by decide) rfl dX7_readsPart_200 203 rfl rfl rfl rfl ?_
        refine q_if_eq C dX7_readsPart_203 206 210 rfl (by decide) (q_eq0 (by omega)) (fun h203 => ?_) (fun h203 => False.elim (by first | omega | simp_all))
        refine q_iconst (v := nI 0) C dX7_readsPart_210 211 rfl (by decide) ?_
        refine q_iadd (v := nI ps.length) C dX7_readsPart_211 212 rfl (q_nadd (by omega)) ?_
        refine q_put (k := 0) (j := 0) (f := 12) C hinX7 tyX7 tyX7_ok nmX7 f153 (fun _ h => h) (by decide) rfl rfl (tyX7_ok 12 (by decide)) rfl rfl dX7_readsPart_212 215 rfl rfl rfl (Nat.le_of_ble_eq_true rfl) [[(h0, .inr (6, [.int (fd 0), .ref aS, .ref aZ, .ref aV, .int (fd 4), .ref aN, .int (fd 6), .ref aU, .int (fd 8), .int (nI (at9 + k_pw tx (k_wo 3) at9)), .int (nI 0), .ref aD, .int (nI ps.length), .int (fd 13), .int (fd 14), .long hh]))], wU, [(aD, .inl (cI, 64, .inl (upd fr1 (3 * ps.length) (nI 3))))]] rfl ?_
        have hPp32 : k_isP cI h0 aS aZ aV aN aU aD (upd (upd (upd fd 10 (nI 0)) 9 (nI (at9 + k_pw tx (k_wo 3) at9))) 12 (nI ps.length)) hh [(h0, .inr (6, [.int (fd 0), .ref aS, .ref aZ, .ref aV, .int (fd 4), .ref aN, .int (fd 6), .ref aU, .int (fd 8), .int (nI (at9 + k_pw tx (k_wo 3) at9)), .int (nI 0), .ref aD, .int (nI ps.length), .int (fd 13), .int (fd 14), .long hh]))] := rfl
        obtain ⟨hmx, hokp⟩ := k_mx_part hk hp (by decide)
        exact q_vret C B dX7_readsPart_215 rfl rfl (fun t0 ht0 => ⟨rfl, _, by rw [hokp, hmx, k_ap_f hokp]; exact hPp32, _, by rw [k_ap_f hokp]; exact ⟨_, k_RDs_keep hrd1 (fun q hq => by repeat rw [pk_un (by omega)]), rfl⟩, rfl⟩)
    · have hPk13 : k_isP cI h0 aS aZ aV aN aU aD (upd (upd fd 10 (nI 1)) 9 (nI (at9 + 4))) hh wP_13 := by have hz := hwP_13; rw [hk, k_wl_full hp] at hz; exact hz
      refine q_aload_n C dX7_readsPart_17 18 1 rfl rfl ?_
      obtain rfl := hPk13
      have hPo33 : k_isP cI h0 aS aZ aV aN aU aD (upd (upd fd 10 (nI 1)) 9 (nI (at9 + 4))) hh [(h0, .inr (6, [.int (fd 0), .ref aS, .ref aZ, .ref aV, .int (fd 4), .ref aN, .int (fd 6), .ref aU, .int (fd 8), .int (nI (at9 + 4)), .int (nI 1), .ref aD, .int (fd 12), .int (fd 13), .int (fd 14), .long hh]))] := rfl
      refine q_get (k := 0) (j := 0) (f := 11) C hinX7 f25 (fun _ h => h) (by decide) rfl dX7_readsPart_18 21 rfl rfl rfl rfl ?_
      refine q_iload_n C dX7_readsPart_21 22 0 rfl rfl ?_
      refine q_iald (k := 2) (j := 0) (v := nI 3) C dX7_readsPart_22 23 rfl rfl rfl hcI (3 * ps.length) rfl (by omega) (by decide) (by rw [pk_us]) ?_
      · refine q_tableIn C dX7_readsPart_23 194 (by decide) (by decide) rfl (by decide) ?_
        refine q_aload_n C dX7_readsPart_194 195 1 rfl rfl ?_
        refine q_dup C dX7_readsPart_195 196 rfl rfl ?_
        refine q_get (k := 0) (j := 0) (f := 12) C hinX7 f153 (fun _ h => h) (by decide) rfl dX7_readsPart_196 199 rfl rfl rfl rfl ?_
        refine q_eqs (st' := [.int (nI ps.length), .ref h0]) (by show ([.int (fd 12), .ref h0] : List Value) = _; rw [q12]) ?_
        refine q_aload_n C dX7_readsPart_199 200 1 rfl rfl ?_
        refine q_get (k := 0) (j := 0) (f := 10) C hinX7 f135 (fun _ h => h) (by decide) rfl dX7_readsPart_200 203 rfl rfl rfl rfl ?_
        refine q_if_eq C dX7_readsPart_203 206 210 rfl (by decide) (q_eq0 (by omega)) (fun h203 => False.elim (by first | omega | simp_all)) (fun h203 => ?_)
        refine q_iconst (v := nI 1) C dX7_readsPart_206 207 rfl (by decide) ?_
        refine q_goto C dX7_readsPart_207 211 (by decide) ?_
        refine q_iadd (v := nI (ps.length + 1)) C dX7_readsPart_211 212 rfl (q_nadd (by omega)) ?_
        refine q_put (k := 0) (j := 0) (f := 12) C hinX7 tyX7 tyX7_ok nmX7 f153 (fun _ h => h) (by decide) rfl rfl (tyX7_ok 12 (by decide)) rfl rfl dX7_readsPart_212 215 rfl rfl rfl (Nat.le_of_ble_eq_true rfl) [[(h0, .inr (6, [.int (fd 0), .ref aS, .ref aZ, .ref aV, .int (fd 4), .ref aN, .int (fd 6), .ref aU, .int (fd 8), .int (nI (at9 + 4)), .int (nI 1), .ref aD, .int (nI (ps.length + 1)), .int (fd 13), .int (fd 14), .long hh]))], wU, [(aD, .inl (cI, 64, .inl (upd fr1 (3 * ps.length) (nI 3))))]] rfl ?_
        have hPp34 : k_isP cI h0 aS aZ aV aN aU aD (upd (upd (upd fd 10 (nI 1)) 9 (nI (at9 + 4))) 12 (nI (ps.length + 1))) hh [(h0, .inr (6, [.int (fd 0), .ref aS, .ref aZ, .ref aV, .int (fd 4), .ref aN, .int (fd 6), .ref aU, .int (fd 8), .int (nI (at9 + 4)), .int (nI 1), .ref aD, .int (nI (ps.length + 1)), .int (fd 13), .int (fd 14), .long hh]))] := rfl
        obtain ⟨hmx0, hokp0⟩ := k_mx_full (r := 0) hk hp rfl
        have hmx : k_mx tx at9 = at9 + 4 := hmx0.trans (by show at9 + 4 + 0 = at9 + 4; omega)
        have hokp : k_okp tx at9 = true := hokp0.trans (decide_eq_true (by show 4 ≤ 4 + 0; omega))
        exact q_vret C B dX7_readsPart_215 rfl rfl (fun t0 ht0 => ⟨rfl, _, by rw [hokp, hmx, k_ap_t hokp, List.length_append, List.length_singleton]; exact hPp34, _, by rw [k_ap_t hokp]; exact ⟨_, k_RDs_add hrd1 (fun q hq => by repeat rw [pk_un (by omega)]) ⟨by rw [hk, pk_us], fun e => absurd (hk.symm.trans e) (by decide), fun e => absurd (hk.symm.trans e) (by decide), fun e => absurd (hk.symm.trans e) (by decide), fun e => absurd (hk.symm.trans e) (by decide)⟩, rfl⟩, rfl⟩)
  · refine q_eqs (st' := [.int (nI 4), .int (nI (3 * ps.length)), .ref aD]) (by rw [hk]) ?_
    refine q_iast (k := 2) (j := 0) C dX7_readsPart_16 17 rfl rfl rfl hcI (3 * ps.length) rfl (by omega) (by decide) [wP_13, wU, [(aD, .inl (cI, 64, .inl (upd fr1 (3 * ps.length) (nI 4))))]] rfl ?_
    have hEs35 : k_isE cI aD (upd fr1 (3 * ps.length) (nI 4)) [(aD, .inl (cI, 64, .inl (upd fr1 (3 * ps.length) (nI 4))))] := rfl
    rcases Nat.lt_or_ge (k_pw tx (k_wo 4) at9) (k_wo 4).length with hp | hp
    · have hPk14 : k_isP cI h0 aS aZ aV aN aU aD (upd (upd fd 10 (nI 0)) 9 (nI (at9 + k_pw tx (k_wo 4) at9))) hh wP_13 := by have hz := hwP_13; rw [hk, k_wl_part hp] at hz; exact hz
      have hpl : k_pw tx (k_wo 4) at9 ≤ 4 := Nat.le_of_lt hp
      refine q_aload_n C dX7_readsPart_17 18 1 rfl rfl ?_
      obtain rfl := hPk14
      have hPo36 : k_isP cI h0 aS aZ aV aN aU aD (upd (upd fd 10 (nI 0)) 9 (nI (at9 + k_pw tx (k_wo 4) at9))) hh [(h0, .inr (6, [.int (fd 0), .ref aS, .ref aZ, .ref aV, .int (fd 4), .ref aN, .int (fd 6), .ref aU, .int (fd 8), .int (nI (at9 + k_pw tx (k_wo 4) at9)), .int (nI 0), .ref aD, .int (fd 12), .int (fd 13), .int (fd 14), .long hh]))] := rfl
      refine q_get (k := 0) (j := 0) (f := 11) C hinX7 f25 (fun _ h => h) (by decide) rfl dX7_readsPart_18 21 rfl rfl rfl rfl ?_
      refine q_iload_n C dX7_readsPart_21 22 0 rfl rfl ?_
      refine q_iald (k := 2) (j := 0) (v := nI 4) C dX7_readsPart_22 23 rfl rfl rfl hcI (3 * ps.length) rfl (by omega) (by decide) (by rw [pk_us]) ?_
      · refine q_tableIn C dX7_readsPart_23 149 (by decide) (by decide) rfl (by decide) ?_
        refine q_aload_n C dX7_readsPart_149 150 1 rfl rfl ?_
        refine q_get (k := 0) (j := 0) (f := 11) C hinX7 f25 (fun _ h => h) (by decide) rfl dX7_readsPart_150 153 rfl rfl rfl rfl ?_
        refine q_iload_n C dX7_readsPart_153 154 0 rfl rfl ?_
        refine q_iconst (v := nI 1) C dX7_readsPart_154 155 rfl (by decide) ?_
        refine q_iadd (v := nI (3 * ps.length + 1)) C dX7_readsPart_155 156 rfl (q_nadd (by omega)) ?_
        refine q_aload_n C dX7_readsPart_156 157 1 rfl rfl ?_
        refine q_iconst (v := nI 1) C dX7_readsPart_157 158 rfl (by decide) ?_
        refine q_bipush (v := nI 99) C dX7_readsPart_158 160 rfl (by decide) ?_
        refine q_callV (k := 0) (ci := 6) (n := 2) (rest := [.int (nI (3 * ps.length + 1)), .ref aD]) (Rr := [[(aD, .inl (cI, 64, .inl (upd fr1 (3 * ps.length) (nI 4))))]]) C rfl (k_isP_recv hPo36) rfl (c_X7_number l hZ hI h0 aS aZ aV aN aU aD (upd (upd fd 10 (nI 0)) 9 (nI (at9 + k_pw tx (k_wo 4) at9))) hh ([(h0, .inr (6, [.int (fd 0), .ref aS, .ref aZ, .ref aV, .int (fd 4), .ref aN, .int (fd 6), .ref aU, .int (fd 8), .int (nI (at9 + k_pw tx (k_wo 4) at9)), .int (nI 0), .ref aD, .int (fd 12), .int (fd 13), .int (fd 14), .long hh]))]) hPo36 tx wU hU 1 99 (at9 + k_pw tx (k_wo 4) at9) false (by first | exact q8 | rfl) (by first | exact q9 | rfl) (by first | exact q10 | rfl) (by omega) (by omega) (by omega)) gX7_readsPart_X7_number rfl rfl rfl (by decide +kernel) B.1 ⟨Nat.le_of_ble_eq_true rfl, Nat.le_of_ble_eq_true rfl⟩ rfl rfl (Nat.le_of_ble_eq_true rfl) dX7_readsPart_160 ⟨Nat.le_of_ble_eq_true rfl, Nat.le_of_ble_eq_true rfl⟩ [0, 1] [2] (by decide : ([0, 1] ++ ([2] : List Nat)).Perm (List.range 3)) rfl rfl 163 rfl (fun v0 R0 t0 ht0 hp0 => ?_)
        obtain ⟨rfl, wP_160, hwP_160, rfl⟩ := hp0
        refine q_eqs (st' := [.int (k_nr tx 1 99 ((at9 + k_pw tx (k_wo 4) at9), false)), .int (nI (3 * ps.length + 1)), .ref aD]) rfl ?_
        refine q_eqR (Rs' := [wP_160, wU, [(aD, .inl (cI, 64, .inl (upd fr1 (3 * ps.length) (nI 4))))]]) rfl ?_
        have hPk16 : k_isP cI h0 aS aZ aV aN aU aD (upd (upd fd 10 (nI 0)) 9 (nI (at9 + k_pw tx (k_wo 4) at9))) hh wP_160 := by have hz := hwP_160; rw [k_nq_f1 rfl] at hz; exact hz
        refine q_iast (k := 2) (j := 0) C dX7_readsPart_163 164 rfl rfl rfl hcI (3 * ps.length + 1) rfl (by omega) (by decide) [wP_160, wU, [(aD, .inl (cI, 64, .inl (upd (upd fr1 (3 * ps.length) (nI 4)) (3 * ps.length + 1) (k_nr tx 1 99 ((at9 + k_pw tx (k_wo 4) at9), false)))))]] rfl ?_
        have hEs37 : k_isE cI aD (upd (upd fr1 (3 * ps.length) (nI 4)) (3 * ps.length + 1) (k_nr tx 1 99 ((at9 + k_pw tx (k_wo 4) at9), false))) [(aD, .inl (cI, 64, .inl (upd (upd fr1 (3 * ps.length) (nI 4)) (3 * ps.length + 1) (k_nr tx 1 99 ((at9 + k_pw tx (k_wo 4) at9), false)))))] := rfl
        refine q_goto C dX7_readsPart_164 194 (by decide) ?_
        refine q_aload_n C dX7_readsPart_194 195 1 rfl rfl ?_
        refine q_dup C dX7_readsPart_195 196 rfl rfl ?_
        obtain rfl := hPk16
        have hPo38 : k_isP cI h0 aS aZ aV aN aU aD (upd (upd fd 10 (nI 0)) 9 (nI (at9 + k_pw tx (k_wo 4) at9))) hh [(h0, .inr (6, [.int (fd 0), .ref aS, .ref aZ, .ref aV, .int (fd 4), .ref aN, .int (fd 6), .ref aU, .int (fd 8), .int (nI (at9 + k_pw tx (k_wo 4) at9)), .int (nI 0), .ref aD, .int (fd 12), .int (fd 13), .int (fd 14), .long hh]))] := rfl
        refine q_get (k := 0) (j := 0) (f := 12) C hinX7 f153 (fun _ h => h) (by decide) rfl dX7_readsPart_196 199 rfl rfl rfl rfl ?_
        refine q_eqs (st' := [.int (nI ps.length), .ref h0]) (by show ([.int (fd 12), .ref h0] : List Value) = _; rw [q12]) ?_
        refine q_aload_n C dX7_readsPart_199 200 1 rfl rfl ?_
        refine q_get (k := 0) (j := 0) (f := 10) C hinX7 f135 (fun _ h => h) (by decide) rfl dX7_readsPart_200 203 rfl rfl rfl rfl ?_
        refine q_if_eq C dX7_readsPart_203 206 210 rfl (by decide) (q_eq0 (by omega)) (fun h203 => ?_) (fun h203 => False.elim (by first | omega | simp_all))
        refine q_iconst (v := nI 0) C dX7_readsPart_210 211 rfl (by decide) ?_
        refine q_iadd (v := nI ps.length) C dX7_readsPart_211 212 rfl (q_nadd (by omega)) ?_
        refine q_put (k := 0) (j := 0) (f := 12) C hinX7 tyX7 tyX7_ok nmX7 f153 (fun _ h => h) (by decide) rfl rfl (tyX7_ok 12 (by decide)) rfl rfl dX7_readsPart_212 215 rfl rfl rfl (Nat.le_of_ble_eq_true rfl) [[(h0, .inr (6, [.int (fd 0), .ref aS, .ref aZ, .ref aV, .int (fd 4), .ref aN, .int (fd 6), .ref aU, .int (fd 8), .int (nI (at9 + k_pw tx (k_wo 4) at9)), .int (nI 0), .ref aD, .int (nI ps.length), .int (fd 13), .int (fd 14), .long hh]))], wU, [(aD, .inl (cI, 64, .inl (upd (upd fr1 (3 * ps.length) (nI 4)) (3 * ps.length + 1) (k_nr tx 1 99 ((at9 + k_pw tx (k_wo 4) at9), false)))))]] rfl ?_
        have hPp39 : k_isP cI h0 aS aZ aV aN aU aD (upd (upd (upd fd 10 (nI 0)) 9 (nI (at9 + k_pw tx (k_wo 4) at9))) 12 (nI ps.length)) hh [(h0, .inr (6, [.int (fd 0), .ref aS, .ref aZ, .ref aV, .int (fd 4), .ref aN, .int (fd 6), .ref aU, .int (fd 8), .int (nI (at9 + k_pw tx (k_wo 4) at9)), .int (nI 0), .ref aD, .int (nI ps.length), .int (fd 13), .int (fd 14), .long hh]))] := rfl
        obtain ⟨hmx, hokp⟩ := k_mx_part hk hp (by decide)
        exact q_vret C B dX7_readsPart_215 rfl rfl (fun t0 ht0 => ⟨rfl, _, by rw [hokp, hmx, k_ap_f hokp]; exact hPp39, _, by rw [k_ap_f hokp]; exact ⟨_, k_RDs_keep hrd1 (fun q hq => by repeat rw [pk_un (by omega)]), rfl⟩, rfl⟩)
    · have hPk15 : k_isP cI h0 aS aZ aV aN aU aD (upd (upd fd 10 (nI 1)) 9 (nI (at9 + 4))) hh wP_13 := by have hz := hwP_13; rw [hk, k_wl_full hp] at hz; exact hz
      refine q_aload_n C dX7_readsPart_17 18 1 rfl rfl ?_
      obtain rfl := hPk15
      have hPo40 : k_isP cI h0 aS aZ aV aN aU aD (upd (upd fd 10 (nI 1)) 9 (nI (at9 + 4))) hh [(h0, .inr (6, [.int (fd 0), .ref aS, .ref aZ, .ref aV, .int (fd 4), .ref aN, .int (fd 6), .ref aU, .int (fd 8), .int (nI (at9 + 4)), .int (nI 1), .ref aD, .int (fd 12), .int (fd 13), .int (fd 14), .long hh]))] := rfl
      refine q_get (k := 0) (j := 0) (f := 11) C hinX7 f25 (fun _ h => h) (by decide) rfl dX7_readsPart_18 21 rfl rfl rfl rfl ?_
      refine q_iload_n C dX7_readsPart_21 22 0 rfl rfl ?_
      refine q_iald (k := 2) (j := 0) (v := nI 4) C dX7_readsPart_22 23 rfl rfl rfl hcI (3 * ps.length) rfl (by omega) (by decide) (by rw [pk_us]) ?_
      · refine q_tableIn C dX7_readsPart_23 149 (by decide) (by decide) rfl (by decide) ?_
        refine q_aload_n C dX7_readsPart_149 150 1 rfl rfl ?_
        refine q_get (k := 0) (j := 0) (f := 11) C hinX7 f25 (fun _ h => h) (by decide) rfl dX7_readsPart_150 153 rfl rfl rfl rfl ?_
        refine q_iload_n C dX7_readsPart_153 154 0 rfl rfl ?_
        refine q_iconst (v := nI 1) C dX7_readsPart_154 155 rfl (by decide) ?_
        refine q_iadd (v := nI (3 * ps.length + 1)) C dX7_readsPart_155 156 rfl (q_nadd (by omega)) ?_
        refine q_aload_n C dX7_readsPart_156 157 1 rfl rfl ?_
        refine q_iconst (v := nI 1) C dX7_readsPart_157 158 rfl (by decide) ?_
        refine q_bipush (v := nI 99) C dX7_readsPart_158 160 rfl (by decide) ?_
        refine q_callV (k := 0) (ci := 6) (n := 2) (rest := [.int (nI (3 * ps.length + 1)), .ref aD]) (Rr := [[(aD, .inl (cI, 64, .inl (upd fr1 (3 * ps.length) (nI 4))))]]) C rfl (k_isP_recv hPo40) rfl (c_X7_number l hZ hI h0 aS aZ aV aN aU aD (upd (upd fd 10 (nI 1)) 9 (nI (at9 + 4))) hh ([(h0, .inr (6, [.int (fd 0), .ref aS, .ref aZ, .ref aV, .int (fd 4), .ref aN, .int (fd 6), .ref aU, .int (fd 8), .int (nI (at9 + 4)), .int (nI 1), .ref aD, .int (fd 12), .int (fd 13), .int (fd 14), .long hh]))]) hPo40 tx wU hU 1 99 (at9 + 4) true (by first | exact q8 | rfl) (by first | exact q9 | rfl) (by first | exact q10 | rfl) (by omega) (by omega) (by omega)) gX7_readsPart_X7_number rfl rfl rfl (by decide +kernel) B.1 ⟨Nat.le_of_ble_eq_true rfl, Nat.le_of_ble_eq_true rfl⟩ rfl rfl (Nat.le_of_ble_eq_true rfl) dX7_readsPart_160 ⟨Nat.le_of_ble_eq_true rfl, Nat.le_of_ble_eq_true rfl⟩ [0, 1] [2] (by decide : ([0, 1] ++ ([2] : List Nat)).Perm (List.range 3)) rfl rfl 163 rfl (fun v0 R0 t0 ht0 hp0 => ?_)
        obtain ⟨rfl, wP_160, hwP_160, rfl⟩ := hp0
        refine q_eqs (st' := [.int (k_nr tx 1 99 ((at9 + 4), true)), .int (nI (3 * ps.length + 1)), .ref aD]) rfl ?_
        refine q_eqR (Rs' := [wP_160, wU, [(aD, .inl (cI, 64, .inl (upd fr1 (3 * ps.length) (nI 4))))]]) rfl ?_
        by_cases hN : 48 + 1 ≤ k_sg tx (at9 + 4) ∧ k_sg tx (at9 + 4) ≤ 57
        · have hPk17 : k_isP cI h0 aS aZ aV aN aU aD (upd (upd fd 10 (nI 1)) 9 (nI (at9 + k_dw tx 1 99 (at9 + 4) + 4))) hh wP_160 := by have hz := hwP_160; rw [k_nq_t rfl hN rfl, show at9 + 4 + k_dw tx 1 99 (at9 + 4) = at9 + k_dw tx 1 99 (at9 + 4) + 4 by omega] at hz; exact hz
          refine q_eqs (st' := [.int (nI (k_nv tx 99 (at9 + 4))), .int (nI (3 * ps.length + 1)), .ref aD]) (by rw [k_nr_t rfl hN rfl]) ?_
          have hdw := k_dw_ge (hi := 99) hN
          refine q_iast (k := 2) (j := 0) C dX7_readsPart_163 164 rfl rfl rfl hcI (3 * ps.length + 1) rfl (by omega) (by decide) [wP_160, wU, [(aD, .inl (cI, 64, .inl (upd (upd fr1 (3 * ps.length) (nI 4)) (3 * ps.length + 1) (nI (k_nv tx 99 (at9 + 4))))))]] rfl ?_
          have hEs41 : k_isE cI aD (upd (upd fr1 (3 * ps.length) (nI 4)) (3 * ps.length + 1) (nI (k_nv tx 99 (at9 + 4)))) [(aD, .inl (cI, 64, .inl (upd (upd fr1 (3 * ps.length) (nI 4)) (3 * ps.length + 1) (nI (k_nv tx 99 (at9 + 4))))))] := rfl
          refine q_goto C dX7_readsPart_164 194 (by decide) ?_
          refine q_aload_n C dX7_readsPart_194 195 1 rfl rfl ?_
          refine q_dup C dX7_readsPart_195 196 rfl rfl ?_
          obtain rfl := hPk17
          have hPo42 : k_isP cI h0 aS aZ aV aN aU aD (upd (upd fd 10 (nI 1)) 9 (nI (at9 + k_dw tx 1 99 (at9 + 4) + 4))) hh [(h0, .inr (6, [.int (fd 0), .ref aS, .ref aZ, .ref aV, .int (fd 4), .ref aN, .int (fd 6), .ref aU, .int (fd 8), .int (nI (at9 + k_dw tx 1 99 (at9 + 4) + 4)), .int (nI 1), .ref aD, .int (fd 12), .int (fd 13), .int (fd 14), .long hh]))] := rfl
          refine q_get (k := 0) (j := 0) (f := 12) C hinX7 f153 (fun _ h => h) (by decide) rfl dX7_readsPart_196 199 rfl rfl rfl rfl ?_
          refine q_eqs (st' := [.int (nI ps.length), .ref h0]) (by show ([.int (fd 12), .ref h0] : List Value) = _; rw [q12]) ?_
          refine q_aload_n C dX7_readsPart_199 200 1 rfl rfl ?_
          refine q_get (k := 0) (j := 0) (f := 10) C hinX7 f135 (fun _ h => h) (by decide) rfl dX7_readsPart_200 203 rfl rfl rfl rfl ?_
          refine q_if_eq C dX7_readsPart_203 206 210 rfl (by decide) (q_eq0 (by omega)) (fun h203 => False.elim (by first | omega | simp_all)) (fun h203 => ?_)
          refine q_iconst (v := nI 1) C dX7_readsPart_206 207 rfl (by decide) ?_
          refine q_goto C dX7_readsPart_207 211 (by decide) ?_
          refine q_iadd (v := nI (ps.length + 1)) C dX7_readsPart_211 212 rfl (q_nadd (by omega)) ?_
          refine q_put (k := 0) (j := 0) (f := 12) C hinX7 tyX7 tyX7_ok nmX7 f153 (fun _ h => h) (by decide) rfl rfl (tyX7_ok 12 (by decide)) rfl rfl dX7_readsPart_212 215 rfl rfl rfl (Nat.le_of_ble_eq_true rfl) [[(h0, .inr (6, [.int (fd 0), .ref aS, .ref aZ, .ref aV, .int (fd 4), .ref aN, .int (fd 6), .ref aU, .int (fd 8), .int (nI (at9 + k_dw tx 1 99 (at9 + 4) + 4)), .int (nI 1), .ref aD, .int (nI (ps.length + 1)), .int (fd 13), .int (fd 14), .long hh]))], wU, [(aD, .inl (cI, 64, .inl (upd (upd fr1 (3 * ps.length) (nI 4)) (3 * ps.length + 1) (nI (k_nv tx 99 (at9 + 4))))))]] rfl ?_
          have hPp43 : k_isP cI h0 aS aZ aV aN aU aD (upd (upd (upd fd 10 (nI 1)) 9 (nI (at9 + k_dw tx 1 99 (at9 + 4) + 4))) 12 (nI (ps.length + 1))) hh [(h0, .inr (6, [.int (fd 0), .ref aS, .ref aZ, .ref aV, .int (fd 4), .ref aN, .int (fd 6), .ref aU, .int (fd 8), .int (nI (at9 + k_dw tx 1 99 (at9 + 4) + 4)), .int (nI 1), .ref aD, .int (nI (ps.length + 1)), .int (fd 13), .int (fd 14), .long hh]))] := rfl
          obtain ⟨hmx0, hokp0⟩ := k_mx_full (r := k_dw tx 1 99 (at9 + 4)) hk hp rfl
          have hmx : k_mx tx at9 = at9 + k_dw tx 1 99 (at9 + 4) + 4 := hmx0.trans (by show at9 + 4 + (k_dw tx 1 99 (at9 + 4)) = at9 + k_dw tx 1 99 (at9 + 4) + 4; omega)
          have hokp : k_okp tx at9 = true := hokp0.trans (decide_eq_true (by show 5 ≤ 4 + (k_dw tx 1 99 (at9 + 4)); omega))
          exact q_vret C B dX7_readsPart_215 rfl rfl (fun t0 ht0 => ⟨rfl, _, by rw [hokp, hmx, k_ap_t hokp, List.length_append, List.length_singleton]; exact hPp43, _, by rw [k_ap_t hokp]; exact ⟨_, k_RDs_add hrd1 (fun q hq => by repeat rw [pk_un (by omega)]) ⟨by rw [hk]; repeat (first | rw [pk_us] | rw [pk_un (by omega)]), fun e => absurd (hk.symm.trans e) (by decide), fun e => absurd (hk.symm.trans e) (by decide), fun _ => by rw [pk_us], fun e => absurd (hk.symm.trans e) (by decide)⟩, rfl⟩, rfl⟩)
        · have hPk18 : k_isP cI h0 aS aZ aV aN aU aD (upd (upd fd 10 (nI 0)) 9 (nI (at9 + 4))) hh wP_160 := by have hz := hwP_160; rw [k_nq_f2 hN] at hz; exact hz
          refine q_iast (k := 2) (j := 0) C dX7_readsPart_163 164 rfl rfl rfl hcI (3 * ps.length + 1) rfl (by omega) (by decide) [wP_160, wU, [(aD, .inl (cI, 64, .inl (upd (upd fr1 (3 * ps.length) (nI 4)) (3 * ps.length + 1) (k_nr tx 1 99 ((at9 + 4), true)))))]] rfl ?_
          have hEs44 : k_isE cI aD (upd (upd fr1 (3 * ps.length) (nI 4)) (3 * ps.length + 1) (k_nr tx 1 99 ((at9 + 4), true))) [(aD, .inl (cI, 64, .inl (upd (upd fr1 (3 * ps.length) (nI 4)) (3 * ps.length + 1) (k_nr tx 1 99 ((at9 + 4), true)))))] := rfl
          refine q_goto C dX7_readsPart_164 194 (by decide) ?_
          refine q_aload_n C dX7_readsPart_194 195 1 rfl rfl ?_
          refine q_dup C dX7_readsPart_195 196 rfl rfl ?_
          obtain rfl := hPk18
          have hPo45 : k_isP cI h0 aS aZ aV aN aU aD (upd (upd fd 10 (nI 0)) 9 (nI (at9 + 4))) hh [(h0, .inr (6, [.int (fd 0), .ref aS, .ref aZ, .ref aV, .int (fd 4), .ref aN, .int (fd 6), .ref aU, .int (fd 8), .int (nI (at9 + 4)), .int (nI 0), .ref aD, .int (fd 12), .int (fd 13), .int (fd 14), .long hh]))] := rfl
          refine q_get (k := 0) (j := 0) (f := 12) C hinX7 f153 (fun _ h => h) (by decide) rfl dX7_readsPart_196 199 rfl rfl rfl rfl ?_
          refine q_eqs (st' := [.int (nI ps.length), .ref h0]) (by show ([.int (fd 12), .ref h0] : List Value) = _; rw [q12]) ?_
          refine q_aload_n C dX7_readsPart_199 200 1 rfl rfl ?_
          refine q_get (k := 0) (j := 0) (f := 10) C hinX7 f135 (fun _ h => h) (by decide) rfl dX7_readsPart_200 203 rfl rfl rfl rfl ?_
          refine q_if_eq C dX7_readsPart_203 206 210 rfl (by decide) (q_eq0 (by omega)) (fun h203 => ?_) (fun h203 => False.elim (by first | omega | simp_all))
          refine q_iconst (v := nI 0) C dX7_readsPart_210 211 rfl (by decide) ?_
          refine q_iadd (v := nI ps.length) C dX7_readsPart_211 212 rfl (q_nadd (by omega)) ?_
          refine q_put (k := 0) (j := 0) (f := 12) C hinX7 tyX7 tyX7_ok nmX7 f153 (fun _ h => h) (by decide) rfl rfl (tyX7_ok 12 (by decide)) rfl rfl dX7_readsPart_212 215 rfl rfl rfl (Nat.le_of_ble_eq_true rfl) [[(h0, .inr (6, [.int (fd 0), .ref aS, .ref aZ, .ref aV, .int (fd 4), .ref aN, .int (fd 6), .ref aU, .int (fd 8), .int (nI (at9 + 4)), .int (nI 0), .ref aD, .int (nI ps.length), .int (fd 13), .int (fd 14), .long hh]))], wU, [(aD, .inl (cI, 64, .inl (upd (upd fr1 (3 * ps.length) (nI 4)) (3 * ps.length + 1) (k_nr tx 1 99 ((at9 + 4), true)))))]] rfl ?_
          have hPp46 : k_isP cI h0 aS aZ aV aN aU aD (upd (upd (upd fd 10 (nI 0)) 9 (nI (at9 + 4))) 12 (nI ps.length)) hh [(h0, .inr (6, [.int (fd 0), .ref aS, .ref aZ, .ref aV, .int (fd 4), .ref aN, .int (fd 6), .ref aU, .int (fd 8), .int (nI (at9 + 4)), .int (nI 0), .ref aD, .int (nI ps.length), .int (fd 13), .int (fd 14), .long hh]))] := rfl
          obtain ⟨hmx0, hokp0⟩ := k_mx_full (r := 0) hk hp (k_dw_0 hN)
          have hmx : k_mx tx at9 = at9 + 4 := hmx0.trans (by show at9 + 4 + 0 = at9 + 4; omega)
          have hokp : k_okp tx at9 = false := hokp0.trans (decide_eq_false (by show ¬ 5 ≤ 4 + 0; omega))
          exact q_vret C B dX7_readsPart_215 rfl rfl (fun t0 ht0 => ⟨rfl, _, by rw [hokp, hmx, k_ap_f hokp]; exact hPp46, _, by rw [k_ap_f hokp]; exact ⟨_, k_RDs_keep hrd1 (fun q hq => by repeat rw [pk_un (by omega)]), rfl⟩, rfl⟩)
  · refine q_eqs (st' := [.int (nI 5), .int (nI (3 * ps.length)), .ref aD]) (by rw [hk]) ?_
    refine q_iast (k := 2) (j := 0) C dX7_readsPart_16 17 rfl rfl rfl hcI (3 * ps.length) rfl (by omega) (by decide) [wP_13, wU, [(aD, .inl (cI, 64, .inl (upd fr1 (3 * ps.length) (nI 5))))]] rfl ?_
    have hEs47 : k_isE cI aD (upd fr1 (3 * ps.length) (nI 5)) [(aD, .inl (cI, 64, .inl (upd fr1 (3 * ps.length) (nI 5))))] := rfl
    rcases Nat.lt_or_ge (k_pw tx (k_wo 5) at9) (k_wo 5).length with hp | hp
    · have hPk19 : k_isP cI h0 aS aZ aV aN aU aD (upd (upd fd 10 (nI 0)) 9 (nI (at9 + k_pw tx (k_wo 5) at9))) hh wP_13 := by have hz := hwP_13; rw [hk, k_wl_part hp] at hz; exact hz
      have hpl : k_pw tx (k_wo 5) at9 ≤ 5 := Nat.le_of_lt hp
      refine q_aload_n C dX7_readsPart_17 18 1 rfl rfl ?_
      obtain rfl := hPk19
      have hPo48 : k_isP cI h0 aS aZ aV aN aU aD (upd (upd fd 10 (nI 0)) 9 (nI (at9 + k_pw tx (k_wo 5) at9))) hh [(h0, .inr (6, [.int (fd 0), .ref aS, .ref aZ, .ref aV, .int (fd 4), .ref aN, .int (fd 6), .ref aU, .int (fd 8), .int (nI (at9 + k_pw tx (k_wo 5) at9)), .int (nI 0), .ref aD, .int (fd 12), .int (fd 13), .int (fd 14), .long hh]))] := rfl
      refine q_get (k := 0) (j := 0) (f := 11) C hinX7 f25 (fun _ h => h) (by decide) rfl dX7_readsPart_18 21 rfl rfl rfl rfl ?_
      refine q_iload_n C dX7_readsPart_21 22 0 rfl rfl ?_
      refine q_iald (k := 2) (j := 0) (v := nI 5) C dX7_readsPart_22 23 rfl rfl rfl hcI (3 * ps.length) rfl (by omega) (by decide) (by rw [pk_us]) ?_
      · refine q_tableIn C dX7_readsPart_23 167 (by decide) (by decide) rfl (by decide) ?_
        refine q_aload_n C dX7_readsPart_167 168 1 rfl rfl ?_
        refine q_get (k := 0) (j := 0) (f := 11) C hinX7 f25 (fun _ h => h) (by decide) rfl dX7_readsPart_168 171 rfl rfl rfl rfl ?_
        refine q_iload_n C dX7_readsPart_171 172 0 rfl rfl ?_
        refine q_iconst (v := nI 1) C dX7_readsPart_172 173 rfl (by decide) ?_
        refine q_iadd (v := nI (3 * ps.length + 1)) C dX7_readsPart_173 174 rfl (q_nadd (by omega)) ?_
        refine q_aload_n C dX7_readsPart_174 175 1 rfl rfl ?_
        refine q_callV (k := 0) (ci := 6) (n := 0) (rest := [.int (nI (3 * ps.length + 1)), .ref aD]) (Rr := [[(aD, .inl (cI, 64, .inl (upd fr1 (3 * ps.length) (nI 5))))]]) C rfl (k_isP_recv hPo48) rfl (c_X7_letter l hZ hI h0 aS aZ aV aN aU aD (upd (upd fd 10 (nI 0)) 9 (nI (at9 + k_pw tx (k_wo 5) at9))) hh ([(h0, .inr (6, [.int (fd 0), .ref aS, .ref aZ, .ref aV, .int (fd 4), .ref aN, .int (fd 6), .ref aU, .int (fd 8), .int (nI (at9 + k_pw tx (k_wo 5) at9)), .int (nI 0), .ref aD, .int (fd 12), .int (fd 13), .int (fd 14), .long hh]))]) hPo48 tx wU hU (at9 + k_pw tx (k_wo 5) at9) false (by first | exact q8 | rfl) (by first | exact q9 | rfl) (by first | exact q10 | rfl) (by omega)) gX7_readsPart_X7_letter rfl rfl rfl (by decide +kernel) B.1 ⟨Nat.le_of_ble_eq_true rfl, Nat.le_of_ble_eq_true rfl⟩ rfl rfl (Nat.le_of_ble_eq_true rfl) dX7_readsPart_175 ⟨Nat.le_of_ble_eq_true rfl, Nat.le_of_ble_eq_true rfl⟩ [0, 1] [2] (by decide : ([0, 1] ++ ([2] : List Nat)).Perm (List.range 3)) rfl rfl 178 rfl (fun v0 R0 t0 ht0 hp0 => ?_)
        obtain ⟨rfl, wP_175, hwP_175, rfl⟩ := hp0
        refine q_eqs (st' := [.int (nI (k_sg tx (at9 + k_pw tx (k_wo 5) at9)) - nI 97), .int (nI (3 * ps.length + 1)), .ref aD]) rfl ?_
        refine q_eqR (Rs' := [wP_175, wU, [(aD, .inl (cI, 64, .inl (upd fr1 (3 * ps.length) (nI 5))))]]) rfl ?_
        have hPk21 : k_isP cI h0 aS aZ aV aN aU aD (upd (upd fd 10 (nI 0)) 9 (nI (at9 + k_pw tx (k_wo 5) at9))) hh wP_175 := by have hz := hwP_175; rw [k_lp_f1 rfl] at hz; exact hz
        refine q_iast (k := 2) (j := 0) C dX7_readsPart_178 179 rfl rfl rfl hcI (3 * ps.length + 1) rfl (by omega) (by decide) [wP_175, wU, [(aD, .inl (cI, 64, .inl (upd (upd fr1 (3 * ps.length) (nI 5)) (3 * ps.length + 1) (nI (k_sg tx (at9 + k_pw tx (k_wo 5) at9)) - nI 97))))]] rfl ?_
        have hEs49 : k_isE cI aD (upd (upd fr1 (3 * ps.length) (nI 5)) (3 * ps.length + 1) (nI (k_sg tx (at9 + k_pw tx (k_wo 5) at9)) - nI 97)) [(aD, .inl (cI, 64, .inl (upd (upd fr1 (3 * ps.length) (nI 5)) (3 * ps.length + 1) (nI (k_sg tx (at9 + k_pw tx (k_wo 5) at9)) - nI 97))))] := rfl
        refine q_aload_n C dX7_readsPart_179 180 1 rfl rfl ?_
        obtain rfl := hPk21
        have hPo50 : k_isP cI h0 aS aZ aV aN aU aD (upd (upd fd 10 (nI 0)) 9 (nI (at9 + k_pw tx (k_wo 5) at9))) hh [(h0, .inr (6, [.int (fd 0), .ref aS, .ref aZ, .ref aV, .int (fd 4), .ref aN, .int (fd 6), .ref aU, .int (fd 8), .int (nI (at9 + k_pw tx (k_wo 5) at9)), .int (nI 0), .ref aD, .int (fd 12), .int (fd 13), .int (fd 14), .long hh]))] := rfl
        refine q_get (k := 0) (j := 0) (f := 11) C hinX7 f25 (fun _ h => h) (by decide) rfl dX7_readsPart_180 183 rfl rfl rfl rfl ?_
        refine q_iload_n C dX7_readsPart_183 184 0 rfl rfl ?_
        refine q_iconst (v := nI 2) C dX7_readsPart_184 185 rfl (by decide) ?_
        refine q_iadd (v := nI (3 * ps.length + 2)) C dX7_readsPart_185 186 rfl (q_nadd (by omega)) ?_
        refine q_aload_n C dX7_readsPart_186 187 1 rfl rfl ?_
        refine q_callV (k := 0) (ci := 6) (n := 0) (rest := [.int (nI (3 * ps.length + 2)), .ref aD]) (Rr := [[(aD, .inl (cI, 64, .inl (upd (upd fr1 (3 * ps.length) (nI 5)) (3 * ps.length + 1) (nI (k_sg tx (at9 + k_pw tx (k_wo 5) at9)) - nI 97))))]]) C rfl (k_isP_recv hPo50) rfl (c_X7_letter l hZ hI h0 aS aZ aV aN aU aD (upd (upd fd 10 (nI 0)) 9 (nI (at9 + k_pw tx (k_wo 5) at9))) hh ([(h0, .inr (6, [.int (fd 0), .ref aS, .ref aZ, .ref aV, .int (fd 4), .ref aN, .int (fd 6), .ref aU, .int (fd 8), .int (nI (at9 + k_pw tx (k_wo 5) at9)), .int (nI 0), .ref aD, .int (fd 12), .int (fd 13), .int (fd 14), .long hh]))]) hPo50 tx wU hU (at9 + k_pw tx (k_wo 5) at9) false (by first | exact q8 | rfl) (by first | exact q9 | rfl) (by first | exact q10 | rfl) (by omega)) gX7_readsPart_X7_letter rfl rfl rfl (by decide +kernel) B.1 ⟨Nat.le_of_ble_eq_true rfl, Nat.le_of_ble_eq_true rfl⟩ rfl rfl (Nat.le_of_ble_eq_true rfl) dX7_readsPart_187 ⟨Nat.le_of_ble_eq_true rfl, Nat.le_of_ble_eq_true rfl⟩ [0, 1] [2] (by decide : ([0, 1] ++ ([2] : List Nat)).Perm (List.range 3)) rfl rfl 190 rfl (fun v0 R0 t0 ht0 hp0 => ?_)
        obtain ⟨rfl, wP_187, hwP_187, rfl⟩ := hp0
        refine q_eqs (st' := [.int (nI (k_sg tx (at9 + k_pw tx (k_wo 5) at9)) - nI 97), .int (nI (3 * ps.length + 2)), .ref aD]) rfl ?_
        refine q_eqR (Rs' := [wP_187, wU, [(aD, .inl (cI, 64, .inl (upd (upd fr1 (3 * ps.length) (nI 5)) (3 * ps.length + 1) (nI (k_sg tx (at9 + k_pw tx (k_wo 5) at9)) - nI 97))))]]) rfl ?_
        have hPk22 : k_isP cI h0 aS aZ aV aN aU aD (upd (upd fd 10 (nI 0)) 9 (nI (at9 + k_pw tx (k_wo 5) at9))) hh wP_187 := by have hz := hwP_187; rw [k_lp_f1 rfl] at hz; exact hz
        refine q_iast (k := 2) (j := 0) C dX7_readsPart_190 191 rfl rfl rfl hcI (3 * ps.length + 2) rfl (by omega) (by decide) [wP_187, wU, [(aD, .inl (cI, 64, .inl (upd (upd (upd fr1 (3 * ps.length) (nI 5)) (3 * ps.length + 1) (nI (k_sg tx (at9 + k_pw tx (k_wo 5) at9)) - nI 97)) (3 * ps.length + 2) (nI (k_sg tx (at9 + k_pw tx (k_wo 5) at9)) - nI 97))))]] rfl ?_
        have hEs51 : k_isE cI aD (upd (upd (upd fr1 (3 * ps.length) (nI 5)) (3 * ps.length + 1) (nI (k_sg tx (at9 + k_pw tx (k_wo 5) at9)) - nI 97)) (3 * ps.length + 2) (nI (k_sg tx (at9 + k_pw tx (k_wo 5) at9)) - nI 97)) [(aD, .inl (cI, 64, .inl (upd (upd (upd fr1 (3 * ps.length) (nI 5)) (3 * ps.length + 1) (nI (k_sg tx (at9 + k_pw tx (k_wo 5) at9)) - nI 97)) (3 * ps.length + 2) (nI (k_sg tx (at9 + k_pw tx (k_wo 5) at9)) - nI 97))))] := rfl
        refine q_goto C dX7_readsPart_191 194 (by decide) ?_
        refine q_aload_n C dX7_readsPart_194 195 1 rfl rfl ?_
        refine q_dup C dX7_readsPart_195 196 rfl rfl ?_
        obtain rfl := hPk22
        have hPo52 : k_isP cI h0 aS aZ aV aN aU aD (upd (upd fd 10 (nI 0)) 9 (nI (at9 + k_pw tx (k_wo 5) at9))) hh [(h0, .inr (6, [.int (fd 0), .ref aS, .ref aZ, .ref aV, .int (fd 4), .ref aN, .int (fd 6), .ref aU, .int (fd 8), .int (nI (at9 + k_pw tx (k_wo 5) at9)), .int (nI 0), .ref aD, .int (fd 12), .int (fd 13), .int (fd 14), .long hh]))] := rfl
        refine q_get (k := 0) (j := 0) (f := 12) C hinX7 f153 (fun _ h => h) (by decide) rfl dX7_readsPart_196 199 rfl rfl rfl rfl ?_
        refine q_eqs (st' := [.int (nI ps.length), .ref h0]) (by show ([.int (fd 12), .ref h0] : List Value) = _; rw [q12]) ?_
        refine q_aload_n C dX7_readsPart_199 200 1 rfl rfl ?_
        refine q_get (k := 0) (j := 0) (f := 10) C hinX7 f135 (fun _ h => h) (by decide) rfl dX7_readsPart_200 203 rfl rfl rfl rfl ?_
        refine q_if_eq C dX7_readsPart_203 206 210 rfl (by decide) (q_eq0 (by omega)) (fun h203 => ?_) (fun h203 => False.elim (by first | omega | simp_all))
        refine q_iconst (v := nI 0) C dX7_readsPart_210 211 rfl (by decide) ?_
        refine q_iadd (v := nI ps.length) C dX7_readsPart_211 212 rfl (q_nadd (by omega)) ?_
        refine q_put (k := 0) (j := 0) (f := 12) C hinX7 tyX7 tyX7_ok nmX7 f153 (fun _ h => h) (by decide) rfl rfl (tyX7_ok 12 (by decide)) rfl rfl dX7_readsPart_212 215 rfl rfl rfl (Nat.le_of_ble_eq_true rfl) [[(h0, .inr (6, [.int (fd 0), .ref aS, .ref aZ, .ref aV, .int (fd 4), .ref aN, .int (fd 6), .ref aU, .int (fd 8), .int (nI (at9 + k_pw tx (k_wo 5) at9)), .int (nI 0), .ref aD, .int (nI ps.length), .int (fd 13), .int (fd 14), .long hh]))], wU, [(aD, .inl (cI, 64, .inl (upd (upd (upd fr1 (3 * ps.length) (nI 5)) (3 * ps.length + 1) (nI (k_sg tx (at9 + k_pw tx (k_wo 5) at9)) - nI 97)) (3 * ps.length + 2) (nI (k_sg tx (at9 + k_pw tx (k_wo 5) at9)) - nI 97))))]] rfl ?_
        have hPp53 : k_isP cI h0 aS aZ aV aN aU aD (upd (upd (upd fd 10 (nI 0)) 9 (nI (at9 + k_pw tx (k_wo 5) at9))) 12 (nI ps.length)) hh [(h0, .inr (6, [.int (fd 0), .ref aS, .ref aZ, .ref aV, .int (fd 4), .ref aN, .int (fd 6), .ref aU, .int (fd 8), .int (nI (at9 + k_pw tx (k_wo 5) at9)), .int (nI 0), .ref aD, .int (nI ps.length), .int (fd 13), .int (fd 14), .long hh]))] := rfl
        obtain ⟨hmx, hokp⟩ := k_mx_part hk hp (by decide)
        exact q_vret C B dX7_readsPart_215 rfl rfl (fun t0 ht0 => ⟨rfl, _, by rw [hokp, hmx, k_ap_f hokp]; exact hPp53, _, by rw [k_ap_f hokp]; exact ⟨_, k_RDs_keep hrd1 (fun q hq => by repeat rw [pk_un (by omega)]), rfl⟩, rfl⟩)
    · have hPk20 : k_isP cI h0 aS aZ aV aN aU aD (upd (upd fd 10 (nI 1)) 9 (nI (at9 + 5))) hh wP_13 := by have hz := hwP_13; rw [hk, k_wl_full hp] at hz; exact hz
      refine q_aload_n C dX7_readsPart_17 18 1 rfl rfl ?_
      obtain rfl := hPk20
      have hPo54 : k_isP cI h0 aS aZ aV aN aU aD (upd (upd fd 10 (nI 1)) 9 (nI (at9 + 5))) hh [(h0, .inr (6, [.int (fd 0), .ref aS, .ref aZ, .ref aV, .int (fd 4), .ref aN, .int (fd 6), .ref aU, .int (fd 8), .int (nI (at9 + 5)), .int (nI 1), .ref aD, .int (fd 12), .int (fd 13), .int (fd 14), .long hh]))] := rfl
      refine q_get (k := 0) (j := 0) (f := 11) C hinX7 f25 (fun _ h => h) (by decide) rfl dX7_readsPart_18 21 rfl rfl rfl rfl ?_
      refine q_iload_n C dX7_readsPart_21 22 0 rfl rfl ?_
      refine q_iald (k := 2) (j := 0) (v := nI 5) C dX7_readsPart_22 23 rfl rfl rfl hcI (3 * ps.length) rfl (by omega) (by decide) (by rw [pk_us]) ?_
      · refine q_tableIn C dX7_readsPart_23 167 (by decide) (by decide) rfl (by decide) ?_
        refine q_aload_n C dX7_readsPart_167 168 1 rfl rfl ?_
        refine q_get (k := 0) (j := 0) (f := 11) C hinX7 f25 (fun _ h => h) (by decide) rfl dX7_readsPart_168 171 rfl rfl rfl rfl ?_
        refine q_iload_n C dX7_readsPart_171 172 0 rfl rfl ?_
        refine q_iconst (v := nI 1) C dX7_readsPart_172 173 rfl (by decide) ?_
        refine q_iadd (v := nI (3 * ps.length + 1)) C dX7_readsPart_173 174 rfl (q_nadd (by omega)) ?_
        refine q_aload_n C dX7_readsPart_174 175 1 rfl rfl ?_
        refine q_callV (k := 0) (ci := 6) (n := 0) (rest := [.int (nI (3 * ps.length + 1)), .ref aD]) (Rr := [[(aD, .inl (cI, 64, .inl (upd fr1 (3 * ps.length) (nI 5))))]]) C rfl (k_isP_recv hPo54) rfl (c_X7_letter l hZ hI h0 aS aZ aV aN aU aD (upd (upd fd 10 (nI 1)) 9 (nI (at9 + 5))) hh ([(h0, .inr (6, [.int (fd 0), .ref aS, .ref aZ, .ref aV, .int (fd 4), .ref aN, .int (fd 6), .ref aU, .int (fd 8), .int (nI (at9 + 5)), .int (nI 1), .ref aD, .int (fd 12), .int (fd 13), .int (fd 14), .long hh]))]) hPo54 tx wU hU (at9 + 5) true (by first | exact q8 | rfl) (by first | exact q9 | rfl) (by first | exact q10 | rfl) (by omega)) gX7_readsPart_X7_letter rfl rfl rfl (by decide +kernel) B.1 ⟨Nat.le_of_ble_eq_true rfl, Nat.le_of_ble_eq_true rfl⟩ rfl rfl (Nat.le_of_ble_eq_true rfl) dX7_readsPart_175 ⟨Nat.le_of_ble_eq_true rfl, Nat.le_of_ble_eq_true rfl⟩ [0, 1] [2] (by decide : ([0, 1] ++ ([2] : List Nat)).Perm (List.range 3)) rfl rfl 178 rfl (fun v0 R0 t0 ht0 hp0 => ?_)
        obtain ⟨rfl, wP_175, hwP_175, rfl⟩ := hp0
        refine q_eqs (st' := [.int (nI (k_sg tx (at9 + 5)) - nI 97), .int (nI (3 * ps.length + 1)), .ref aD]) rfl ?_
        refine q_eqR (Rs' := [wP_175, wU, [(aD, .inl (cI, 64, .inl (upd fr1 (3 * ps.length) (nI 5))))]]) rfl ?_
        by_cases hL1 : 97 ≤ k_sg tx (at9 + 5) ∧ k_sg tx (at9 + 5) ≤ 108
        · have hPk23 : k_isP cI h0 aS aZ aV aN aU aD (upd (upd fd 10 (nI 1)) 9 (nI (at9 + 6))) hh wP_175 := by have hz := hwP_175; rw [k_lp_t rfl hL1] at hz; exact hz
          refine q_eqs (st' := [.int (nI (k_sg tx (at9 + 5) - 97)), .int (nI (3 * ps.length + 1)), .ref aD]) (by rw [q_nsub (by omega) rfl]) ?_
          refine q_iast (k := 2) (j := 0) C dX7_readsPart_178 179 rfl rfl rfl hcI (3 * ps.length + 1) rfl (by omega) (by decide) [wP_175, wU, [(aD, .inl (cI, 64, .inl (upd (upd fr1 (3 * ps.length) (nI 5)) (3 * ps.length + 1) (nI (k_sg tx (at9 + 5) - 97)))))]] rfl ?_
          have hEs55 : k_isE cI aD (upd (upd fr1 (3 * ps.length) (nI 5)) (3 * ps.length + 1) (nI (k_sg tx (at9 + 5) - 97))) [(aD, .inl (cI, 64, .inl (upd (upd fr1 (3 * ps.length) (nI 5)) (3 * ps.length + 1) (nI (k_sg tx (at9 + 5) - 97)))))] := rfl
          refine q_aload_n C dX7_readsPart_179 180 1 rfl rfl ?_
          obtain rfl := hPk23
          have hPo56 : k_isP cI h0 aS aZ aV aN aU aD (upd (upd fd 10 (nI 1)) 9 (nI (at9 + 6))) hh [(h0, .inr (6, [.int (fd 0), .ref aS, .ref aZ, .ref aV, .int (fd 4), .ref aN, .int (fd 6), .ref aU, .int (fd 8), .int (nI (at9 + 6)), .int (nI 1), .ref aD, .int (fd 12), .int (fd 13), .int (fd 14), .long hh]))] := rfl
          refine q_get (k := 0) (j := 0) (f := 11) C hinX7 f25 (fun _ h => h) (by decide) rfl dX7_readsPart_180 183 rfl rfl rfl rfl ?_
          refine q_iload_n C dX7_readsPart_183 184 0 rfl rfl ?_
          refine q_iconst (v := nI 2) C dX7_readsPart_184 185 rfl (by decide) ?_
          refine q_iadd (v := nI (3 * ps.length + 2)) C dX7_readsPart_185 186 rfl (q_nadd (by omega)) ?_
          refine q_aload_n C dX7_readsPart_186 187 1 rfl rfl ?_
          refine q_callV (k := 0) (ci := 6) (n := 0) (rest := [.int (nI (3 * ps.length + 2)), .ref aD]) (Rr := [[(aD, .inl (cI, 64, .inl (upd (upd fr1 (3 * ps.length) (nI 5)) (3 * ps.length + 1) (nI (k_sg tx (at9 + 5) - 97)))))]]) C rfl (k_isP_recv hPo56) rfl (c_X7_letter l hZ hI h0 aS aZ aV aN aU aD (upd (upd fd 10 (nI 1)) 9 (nI (at9 + 6))) hh ([(h0, .inr (6, [.int (fd 0), .ref aS, .ref aZ, .ref aV, .int (fd 4), .ref aN, .int (fd 6), .ref aU, .int (fd 8), .int (nI (at9 + 6)), .int (nI 1), .ref aD, .int (fd 12), .int (fd 13), .int (fd 14), .long hh]))]) hPo56 tx wU hU (at9 + 6) true (by first | exact q8 | rfl) (by first | exact q9 | rfl) (by first | exact q10 | rfl) (by omega)) gX7_readsPart_X7_letter rfl rfl rfl (by decide +kernel) B.1 ⟨Nat.le_of_ble_eq_true rfl, Nat.le_of_ble_eq_true rfl⟩ rfl rfl (Nat.le_of_ble_eq_true rfl) dX7_readsPart_187 ⟨Nat.le_of_ble_eq_true rfl, Nat.le_of_ble_eq_true rfl⟩ [0, 1] [2] (by decide : ([0, 1] ++ ([2] : List Nat)).Perm (List.range 3)) rfl rfl 190 rfl (fun v0 R0 t0 ht0 hp0 => ?_)
          obtain ⟨rfl, wP_187, hwP_187, rfl⟩ := hp0
          refine q_eqs (st' := [.int (nI (k_sg tx (at9 + 6)) - nI 97), .int (nI (3 * ps.length + 2)), .ref aD]) rfl ?_
          refine q_eqR (Rs' := [wP_187, wU, [(aD, .inl (cI, 64, .inl (upd (upd fr1 (3 * ps.length) (nI 5)) (3 * ps.length + 1) (nI (k_sg tx (at9 + 5) - 97)))))]]) rfl ?_
          by_cases hL2 : 97 ≤ k_sg tx (at9 + 6) ∧ k_sg tx (at9 + 6) ≤ 108
          · have hPk25 : k_isP cI h0 aS aZ aV aN aU aD (upd (upd fd 10 (nI 1)) 9 (nI (at9 + 7))) hh wP_187 := by have hz := hwP_187; rw [k_lp_t rfl hL2] at hz; exact hz
            refine q_eqs (st' := [.int (nI (k_sg tx (at9 + 6) - 97)), .int (nI (3 * ps.length + 2)), .ref aD]) (by rw [q_nsub (by omega) rfl]) ?_
            refine q_iast (k := 2) (j := 0) C dX7_readsPart_190 191 rfl rfl rfl hcI (3 * ps.length + 2) rfl (by omega) (by decide) [wP_187, wU, [(aD, .inl (cI, 64, .inl (upd (upd (upd fr1 (3 * ps.length) (nI 5)) (3 * ps.length + 1) (nI (k_sg tx (at9 + 5) - 97))) (3 * ps.length + 2) (nI (k_sg tx (at9 + 6) - 97)))))]] rfl ?_
            have hEs57 : k_isE cI aD (upd (upd (upd fr1 (3 * ps.length) (nI 5)) (3 * ps.length + 1) (nI (k_sg tx (at9 + 5) - 97))) (3 * ps.length + 2) (nI (k_sg tx (at9 + 6) - 97))) [(aD, .inl (cI, 64, .inl (upd (upd (upd fr1 (3 * ps.length) (nI 5)) (3 * ps.length + 1) (nI (k_sg tx (at9 + 5) - 97))) (3 * ps.length + 2) (nI (k_sg tx (at9 + 6) - 97)))))] := rfl
            refine q_goto C dX7_readsPart_191 194 (by decide) ?_
            refine q_aload_n C dX7_readsPart_194 195 1 rfl rfl ?_
            refine q_dup C dX7_readsPart_195 196 rfl rfl ?_
            obtain rfl := hPk25
            have hPo58 : k_isP cI h0 aS aZ aV aN aU aD (upd (upd fd 10 (nI 1)) 9 (nI (at9 + 7))) hh [(h0, .inr (6, [.int (fd 0), .ref aS, .ref aZ, .ref aV, .int (fd 4), .ref aN, .int (fd 6), .ref aU, .int (fd 8), .int (nI (at9 + 7)), .int (nI 1), .ref aD, .int (fd 12), .int (fd 13), .int (fd 14), .long hh]))] := rfl
            refine q_get (k := 0) (j := 0) (f := 12) C hinX7 f153 (fun _ h => h) (by decide) rfl dX7_readsPart_196 199 rfl rfl rfl rfl ?_
            refine q_eqs (st' := [.int (nI ps.length), .ref h0]) (by show ([.int (fd 12), .ref h0] : List Value) = _; rw [q12]) ?_
            refine q_aload_n C dX7_readsPart_199 200 1 rfl rfl ?_
            refine q_get (k := 0) (j := 0) (f := 10) C hinX7 f135 (fun _ h => h) (by decide) rfl dX7_readsPart_200 203 rfl rfl rfl rfl ?_
            refine q_if_eq C dX7_readsPart_203 206 210 rfl (by decide) (q_eq0 (by omega)) (fun h203 => False.elim (by first | omega | simp_all)) (fun h203 => ?_)
            refine q_iconst (v := nI 1) C dX7_readsPart_206 207 rfl (by decide) ?_
            refine q_goto C dX7_readsPart_207 211 (by decide) ?_
            refine q_iadd (v := nI (ps.length + 1)) C dX7_readsPart_211 212 rfl (q_nadd (by omega)) ?_
            refine q_put (k := 0) (j := 0) (f := 12) C hinX7 tyX7 tyX7_ok nmX7 f153 (fun _ h => h) (by decide) rfl rfl (tyX7_ok 12 (by decide)) rfl rfl dX7_readsPart_212 215 rfl rfl rfl (Nat.le_of_ble_eq_true rfl) [[(h0, .inr (6, [.int (fd 0), .ref aS, .ref aZ, .ref aV, .int (fd 4), .ref aN, .int (fd 6), .ref aU, .int (fd 8), .int (nI (at9 + 7)), .int (nI 1), .ref aD, .int (nI (ps.length + 1)), .int (fd 13), .int (fd 14), .long hh]))], wU, [(aD, .inl (cI, 64, .inl (upd (upd (upd fr1 (3 * ps.length) (nI 5)) (3 * ps.length + 1) (nI (k_sg tx (at9 + 5) - 97))) (3 * ps.length + 2) (nI (k_sg tx (at9 + 6) - 97)))))]] rfl ?_
            have hPp59 : k_isP cI h0 aS aZ aV aN aU aD (upd (upd (upd fd 10 (nI 1)) 9 (nI (at9 + 7))) 12 (nI (ps.length + 1))) hh [(h0, .inr (6, [.int (fd 0), .ref aS, .ref aZ, .ref aV, .int (fd 4), .ref aN, .int (fd 6), .ref aU, .int (fd 8), .int (nI (at9 + 7)), .int (nI 1), .ref aD, .int (nI (ps.length + 1)), .int (fd 13), .int (fd 14), .long hh]))] := rfl
            obtain ⟨hmx0, hokp0⟩ := k_mx_full (r := 2) hk hp (by show k_lw tx 2 (at9 + 5) = 2; rw [k_lw_1 hL1, k_lw_1 hL2]; rfl)
            have hmx : k_mx tx at9 = at9 + 7 := hmx0.trans (by show at9 + 5 + 2 = at9 + 7; omega)
            have hokp : k_okp tx at9 = true := hokp0.trans (decide_eq_true (by show 7 ≤ 5 + 2; omega))
            exact q_vret C B dX7_readsPart_215 rfl rfl (fun t0 ht0 => ⟨rfl, _, by rw [hokp, hmx, k_ap_t hokp, List.length_append, List.length_singleton]; exact hPp59, _, by rw [k_ap_t hokp]; exact ⟨_, k_RDs_add hrd1 (fun q hq => by repeat rw [pk_un (by omega)]) ⟨by rw [hk]; repeat (first | rw [pk_us] | rw [pk_un (by omega)]), fun e => absurd (hk.symm.trans e) (by decide), fun e => absurd (hk.symm.trans e) (by decide), fun e => absurd (hk.symm.trans e) (by decide), fun _ => ⟨by repeat (first | rw [pk_us] | rw [pk_un (by omega)]), by rw [pk_us]⟩⟩, rfl⟩, rfl⟩)
          · have hPk26 : k_isP cI h0 aS aZ aV aN aU aD (upd (upd fd 10 (nI 0)) 9 (nI (at9 + 6))) hh wP_187 := by have hz := hwP_187; rw [k_lp_f2 hL2] at hz; exact hz
            refine q_iast (k := 2) (j := 0) C dX7_readsPart_190 191 rfl rfl rfl hcI (3 * ps.length + 2) rfl (by omega) (by decide) [wP_187, wU, [(aD, .inl (cI, 64, .inl (upd (upd (upd fr1 (3 * ps.length) (nI 5)) (3 * ps.length + 1) (nI (k_sg tx (at9 + 5) - 97))) (3 * ps.length + 2) (nI (k_sg tx (at9 + 6)) - nI 97))))]] rfl ?_
            have hEs60 : k_isE cI aD (upd (upd (upd fr1 (3 * ps.length) (nI 5)) (3 * ps.length + 1) (nI (k_sg tx (at9 + 5) - 97))) (3 * ps.length + 2) (nI (k_sg tx (at9 + 6)) - nI 97)) [(aD, .inl (cI, 64, .inl (upd (upd (upd fr1 (3 * ps.length) (nI 5)) (3 * ps.length + 1) (nI (k_sg tx (at9 + 5) - 97))) (3 * ps.length + 2) (nI (k_sg tx (at9 + 6)) - nI 97))))] := rfl
            refine q_goto C dX7_readsPart_191 194 (by decide) ?_
            refine q_aload_n C dX7_readsPart_194 195 1 rfl rfl ?_
            refine q_dup C dX7_readsPart_195 196 rfl rfl ?_
            obtain rfl := hPk26
            have hPo61 : k_isP cI h0 aS aZ aV aN aU aD (upd (upd fd 10 (nI 0)) 9 (nI (at9 + 6))) hh [(h0, .inr (6, [.int (fd 0), .ref aS, .ref aZ, .ref aV, .int (fd 4), .ref aN, .int (fd 6), .ref aU, .int (fd 8), .int (nI (at9 + 6)), .int (nI 0), .ref aD, .int (fd 12), .int (fd 13), .int (fd 14), .long hh]))] := rfl
            refine q_get (k := 0) (j := 0) (f := 12) C hinX7 f153 (fun _ h => h) (by decide) rfl dX7_readsPart_196 199 rfl rfl rfl rfl ?_
            refine q_eqs (st' := [.int (nI ps.length), .ref h0]) (by show ([.int (fd 12), .ref h0] : List Value) = _; rw [q12]) ?_
            refine q_aload_n C dX7_readsPart_199 200 1 rfl rfl ?_
            refine q_get (k := 0) (j := 0) (f := 10) C hinX7 f135 (fun _ h => h) (by decide) rfl dX7_readsPart_200 203 rfl rfl rfl rfl ?_
            refine q_if_eq C dX7_readsPart_203 206 210 rfl (by decide) (q_eq0 (by omega)) (fun h203 => ?_) (fun h203 => False.elim (by first | omega | simp_all))
            refine q_iconst (v := nI 0) C dX7_readsPart_210 211 rfl (by decide) ?_
            refine q_iadd (v := nI ps.length) C dX7_readsPart_211 212 rfl (q_nadd (by omega)) ?_
            refine q_put (k := 0) (j := 0) (f := 12) C hinX7 tyX7 tyX7_ok nmX7 f153 (fun _ h => h) (by decide) rfl rfl (tyX7_ok 12 (by decide)) rfl rfl dX7_readsPart_212 215 rfl rfl rfl (Nat.le_of_ble_eq_true rfl) [[(h0, .inr (6, [.int (fd 0), .ref aS, .ref aZ, .ref aV, .int (fd 4), .ref aN, .int (fd 6), .ref aU, .int (fd 8), .int (nI (at9 + 6)), .int (nI 0), .ref aD, .int (nI ps.length), .int (fd 13), .int (fd 14), .long hh]))], wU, [(aD, .inl (cI, 64, .inl (upd (upd (upd fr1 (3 * ps.length) (nI 5)) (3 * ps.length + 1) (nI (k_sg tx (at9 + 5) - 97))) (3 * ps.length + 2) (nI (k_sg tx (at9 + 6)) - nI 97))))]] rfl ?_
            have hPp62 : k_isP cI h0 aS aZ aV aN aU aD (upd (upd (upd fd 10 (nI 0)) 9 (nI (at9 + 6))) 12 (nI ps.length)) hh [(h0, .inr (6, [.int (fd 0), .ref aS, .ref aZ, .ref aV, .int (fd 4), .ref aN, .int (fd 6), .ref aU, .int (fd 8), .int (nI (at9 + 6)), .int (nI 0), .ref aD, .int (nI ps.length), .int (fd 13), .int (fd 14), .long hh]))] := rfl
            obtain ⟨hmx0, hokp0⟩ := k_mx_full (r := 1) hk hp (by show k_lw tx 2 (at9 + 5) = 1; rw [k_lw_1 hL1, k_lw_0 hL2])
            have hmx : k_mx tx at9 = at9 + 6 := hmx0.trans (by show at9 + 5 + 1 = at9 + 6; omega)
            have hokp : k_okp tx at9 = false := hokp0.trans (decide_eq_false (by show ¬ 7 ≤ 5 + 1; omega))
            exact q_vret C B dX7_readsPart_215 rfl rfl (fun t0 ht0 => ⟨rfl, _, by rw [hokp, hmx, k_ap_f hokp]; exact hPp62, _, by rw [k_ap_f hokp]; exact ⟨_, k_RDs_keep hrd1 (fun q hq => by repeat rw [pk_un (by omega)]), rfl⟩, rfl⟩)
        · have hPk24 : k_isP cI h0 aS aZ aV aN aU aD (upd (upd fd 10 (nI 0)) 9 (nI (at9 + 5))) hh wP_175 := by have hz := hwP_175; rw [k_lp_f2 hL1] at hz; exact hz
          refine q_iast (k := 2) (j := 0) C dX7_readsPart_178 179 rfl rfl rfl hcI (3 * ps.length + 1) rfl (by omega) (by decide) [wP_175, wU, [(aD, .inl (cI, 64, .inl (upd (upd fr1 (3 * ps.length) (nI 5)) (3 * ps.length + 1) (nI (k_sg tx (at9 + 5)) - nI 97))))]] rfl ?_
          have hEs63 : k_isE cI aD (upd (upd fr1 (3 * ps.length) (nI 5)) (3 * ps.length + 1) (nI (k_sg tx (at9 + 5)) - nI 97)) [(aD, .inl (cI, 64, .inl (upd (upd fr1 (3 * ps.length) (nI 5)) (3 * ps.length + 1) (nI (k_sg tx (at9 + 5)) - nI 97))))] := rfl
          refine q_aload_n C dX7_readsPart_179 180 1 rfl rfl ?_
          obtain rfl := hPk24
          have hPo64 : k_isP cI h0 aS aZ aV aN aU aD (upd (upd fd 10 (nI 0)) 9 (nI (at9 + 5))) hh [(h0, .inr (6, [.int (fd 0), .ref aS, .ref aZ, .ref aV, .int (fd 4), .ref aN, .int (fd 6), .ref aU, .int (fd 8), .int (nI (at9 + 5)), .int (nI 0), .ref aD, .int (fd 12), .int (fd 13), .int (fd 14), .long hh]))] := rfl
          refine q_get (k := 0) (j := 0) (f := 11) C hinX7 f25 (fun _ h => h) (by decide) rfl dX7_readsPart_180 183 rfl rfl rfl rfl ?_
          refine q_iload_n C dX7_readsPart_183 184 0 rfl rfl ?_
          refine q_iconst (v := nI 2) C dX7_readsPart_184 185 rfl (by decide) ?_
          refine q_iadd (v := nI (3 * ps.length + 2)) C dX7_readsPart_185 186 rfl (q_nadd (by omega)) ?_
          refine q_aload_n C dX7_readsPart_186 187 1 rfl rfl ?_
          refine q_callV (k := 0) (ci := 6) (n := 0) (rest := [.int (nI (3 * ps.length + 2)), .ref aD]) (Rr := [[(aD, .inl (cI, 64, .inl (upd (upd fr1 (3 * ps.length) (nI 5)) (3 * ps.length + 1) (nI (k_sg tx (at9 + 5)) - nI 97))))]]) C rfl (k_isP_recv hPo64) rfl (c_X7_letter l hZ hI h0 aS aZ aV aN aU aD (upd (upd fd 10 (nI 0)) 9 (nI (at9 + 5))) hh ([(h0, .inr (6, [.int (fd 0), .ref aS, .ref aZ, .ref aV, .int (fd 4), .ref aN, .int (fd 6), .ref aU, .int (fd 8), .int (nI (at9 + 5)), .int (nI 0), .ref aD, .int (fd 12), .int (fd 13), .int (fd 14), .long hh]))]) hPo64 tx wU hU (at9 + 5) false (by first | exact q8 | rfl) (by first | exact q9 | rfl) (by first | exact q10 | rfl) (by omega)) gX7_readsPart_X7_letter rfl rfl rfl (by decide +kernel) B.1 ⟨Nat.le_of_ble_eq_true rfl, Nat.le_of_ble_eq_true rfl⟩ rfl rfl (Nat.le_of_ble_eq_true rfl) dX7_readsPart_187 ⟨Nat.le_of_ble_eq_true rfl, Nat.le_of_ble_eq_true rfl⟩ [0, 1] [2] (by decide : ([0, 1] ++ ([2] : List Nat)).Perm (List.range 3)) rfl rfl 190 rfl (fun v0 R0 t0 ht0 hp0 => ?_)
          obtain ⟨rfl, wP_187, hwP_187, rfl⟩ := hp0
          refine q_eqs (st' := [.int (nI (k_sg tx (at9 + 5)) - nI 97), .int (nI (3 * ps.length + 2)), .ref aD]) rfl ?_
          refine q_eqR (Rs' := [wP_187, wU, [(aD, .inl (cI, 64, .inl (upd (upd fr1 (3 * ps.length) (nI 5)) (3 * ps.length + 1) (nI (k_sg tx (at9 + 5)) - nI 97))))]]) rfl ?_
          have hPk27 : k_isP cI h0 aS aZ aV aN aU aD (upd (upd fd 10 (nI 0)) 9 (nI (at9 + 5))) hh wP_187 := by have hz := hwP_187; rw [k_lp_f1 rfl] at hz; exact hz
          refine q_iast (k := 2) (j := 0) C dX7_readsPart_190 191 rfl rfl rfl hcI (3 * ps.length + 2) rfl (by omega) (by decide) [wP_187, wU, [(aD, .inl (cI, 64, .inl (upd (upd (upd fr1 (3 * ps.length) (nI 5)) (3 * ps.length + 1) (nI (k_sg tx (at9 + 5)) - nI 97)) (3 * ps.length + 2) (nI (k_sg tx (at9 + 5)) - nI 97))))]] rfl ?_
          have hEs65 : k_isE cI aD (upd (upd (upd fr1 (3 * ps.length) (nI 5)) (3 * ps.length + 1) (nI (k_sg tx (at9 + 5)) - nI 97)) (3 * ps.length + 2) (nI (k_sg tx (at9 + 5)) - nI 97)) [(aD, .inl (cI, 64, .inl (upd (upd (upd fr1 (3 * ps.length) (nI 5)) (3 * ps.length + 1) (nI (k_sg tx (at9 + 5)) - nI 97)) (3 * ps.length + 2) (nI (k_sg tx (at9 + 5)) - nI 97))))] := rfl
          refine q_goto C dX7_readsPart_191 194 (by decide) ?_
          refine q_aload_n C dX7_readsPart_194 195 1 rfl rfl ?_
          refine q_dup C dX7_readsPart_195 196 rfl rfl ?_
          obtain rfl := hPk27
          have hPo66 : k_isP cI h0 aS aZ aV aN aU aD (upd (upd fd 10 (nI 0)) 9 (nI (at9 + 5))) hh [(h0, .inr (6, [.int (fd 0), .ref aS, .ref aZ, .ref aV, .int (fd 4), .ref aN, .int (fd 6), .ref aU, .int (fd 8), .int (nI (at9 + 5)), .int (nI 0), .ref aD, .int (fd 12), .int (fd 13), .int (fd 14), .long hh]))] := rfl
          refine q_get (k := 0) (j := 0) (f := 12) C hinX7 f153 (fun _ h => h) (by decide) rfl dX7_readsPart_196 199 rfl rfl rfl rfl ?_
          refine q_eqs (st' := [.int (nI ps.length), .ref h0]) (by show ([.int (fd 12), .ref h0] : List Value) = _; rw [q12]) ?_
          refine q_aload_n C dX7_readsPart_199 200 1 rfl rfl ?_
          refine q_get (k := 0) (j := 0) (f := 10) C hinX7 f135 (fun _ h => h) (by decide) rfl dX7_readsPart_200 203 rfl rfl rfl rfl ?_
          refine q_if_eq C dX7_readsPart_203 206 210 rfl (by decide) (q_eq0 (by omega)) (fun h203 => ?_) (fun h203 => False.elim (by first | omega | simp_all))
          refine q_iconst (v := nI 0) C dX7_readsPart_210 211 rfl (by decide) ?_
          refine q_iadd (v := nI ps.length) C dX7_readsPart_211 212 rfl (q_nadd (by omega)) ?_
          refine q_put (k := 0) (j := 0) (f := 12) C hinX7 tyX7 tyX7_ok nmX7 f153 (fun _ h => h) (by decide) rfl rfl (tyX7_ok 12 (by decide)) rfl rfl dX7_readsPart_212 215 rfl rfl rfl (Nat.le_of_ble_eq_true rfl) [[(h0, .inr (6, [.int (fd 0), .ref aS, .ref aZ, .ref aV, .int (fd 4), .ref aN, .int (fd 6), .ref aU, .int (fd 8), .int (nI (at9 + 5)), .int (nI 0), .ref aD, .int (nI ps.length), .int (fd 13), .int (fd 14), .long hh]))], wU, [(aD, .inl (cI, 64, .inl (upd (upd (upd fr1 (3 * ps.length) (nI 5)) (3 * ps.length + 1) (nI (k_sg tx (at9 + 5)) - nI 97)) (3 * ps.length + 2) (nI (k_sg tx (at9 + 5)) - nI 97))))]] rfl ?_
          have hPp67 : k_isP cI h0 aS aZ aV aN aU aD (upd (upd (upd fd 10 (nI 0)) 9 (nI (at9 + 5))) 12 (nI ps.length)) hh [(h0, .inr (6, [.int (fd 0), .ref aS, .ref aZ, .ref aV, .int (fd 4), .ref aN, .int (fd 6), .ref aU, .int (fd 8), .int (nI (at9 + 5)), .int (nI 0), .ref aD, .int (nI ps.length), .int (fd 13), .int (fd 14), .long hh]))] := rfl
          obtain ⟨hmx0, hokp0⟩ := k_mx_full (r := 0) hk hp (k_lw_0 hL1)
          have hmx : k_mx tx at9 = at9 + 5 := hmx0.trans (by show at9 + 5 + 0 = at9 + 5; omega)
          have hokp : k_okp tx at9 = false := hokp0.trans (decide_eq_false (by show ¬ 7 ≤ 5 + 0; omega))
          exact q_vret C B dX7_readsPart_215 rfl rfl (fun t0 ht0 => ⟨rfl, _, by rw [hokp, hmx, k_ap_f hokp]; exact hPp67, _, by rw [k_ap_f hokp]; exact ⟨_, k_RDs_keep hrd1 (fun q hq => by repeat rw [pk_un (by omega)]), rfl⟩, rfl⟩)
