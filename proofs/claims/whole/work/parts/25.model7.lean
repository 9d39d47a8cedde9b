set_option maxHeartbeats 400000 in
set_option maxRecDepth 100000 in
theorem c_X7_share (l : Launch) {D : va_G} {tys : List (ClassId × FieldType)} {Z : (Nat → Prop) → State → Heap → Prop} (hZ : q_St Z) {cI : ClassId} (hI : tys[0]? = some (cI, .int)) (h0 : Nat) (aS : Nat) (aZ : Nat) (aV : Nat) (aN : Nat) (aU : Nat) (aD : Nat) (fd : Nat → Int32) (hh : Int64) (wP : va_W) (hP : k_isP cI h0 aS aZ aV aN aU aD fd hh wP) (bx : k_Bx) (at0 : Nat) (ln : List (Nat × Nat)) (sc : Nat → Int32) (wQ : va_W) (hQ : k_isQ cI aS bx at0 ln sc wQ) : q_Ct l D tys Z yX7_share wsX7_share ({ frames := 3, cells := 0, slots := 0, locals := 102 } : Room) 0 0 [.ref h0] [wP, wQ] (fun v0 R0 _ => v0 = some (.double (k_sh ln)) ∧ R0 = [wP, wQ]) := by
  have hcI := hI
  refine q_ct (cc := cX7_share) (maxL := 1) (ret := (some .double)) (own := RX7) (by decide) rfl hZ (Nat.le_of_ble_eq_true rfl) rfl ?_
  intro p9 e9 R s9 m9 args below meth c9 A Q C B
  have hts := C.2.2.2.2.1
  have hinX7 : ∀ w ∈ u_ws RX7 TX7 16, w ∈ wsX7_share := by decide +kernel
  have f7 := hts (.fieldLink RX7 7 "SortCasesModel" "s" "[I") (by decide +kernel)
  refine q_eqL (L' := [(0, .ref h0)]) rfl ?_
  refine q_aload_n C dX7_share_0 1 0 rfl rfl ?_
  obtain rfl := hP
  have hPo1 : k_isP cI h0 aS aZ aV aN aU aD fd hh [(h0, .inr (6, [.int (fd 0), .ref aS, .ref aZ, .ref aV, .int (fd 4), .ref aN, .int (fd 6), .ref aU, .int (fd 8), .int (fd 9), .int (fd 10), .ref aD, .int (fd 12), .int (fd 13), .int (fd 14), .long hh]))] := rfl
  refine q_get (k := 0) (j := 0) (f := 1) C hinX7 f7 (fun _ h => h) (by decide) rfl dX7_share_1 4 rfl rfl rfl rfl ?_
  refine q_bipush (v := nI 12) C dX7_share_4 6 rfl (by decide) ?_
  obtain ⟨hat2, hok2, hlok2, f2, hm2, rfl⟩ := hQ
  have hll2 := hlok2.1
  have hQo2 : k_isQ cI aS bx at0 ln sc [(aS, .inl (cI, 350, .inl f2))] := ⟨hat2, hok2, hlok2, f2, hm2, rfl⟩
  refine q_iald (k := 1) (j := 0) (v := nI ln.length) C dX7_share_6 7 rfl rfl rfl hcI 12 rfl (by omega) (by decide) (hm2.2.2.1) ?_
  refine q_if_ne C dX7_share_7 10 14 rfl (by decide) (q_eq0 (by omega)) (fun h7 => ?_) (fun h7 => ?_)
  · refine q_aload_n C dX7_share_14 15 0 rfl rfl ?_
    refine q_get (k := 0) (j := 0) (f := 1) C hinX7 f7 (fun _ h => h) (by decide) rfl dX7_share_15 18 rfl rfl rfl rfl ?_
    refine q_bipush (v := nI 12) C dX7_share_18 20 rfl (by decide) ?_
    refine q_iald (k := 1) (j := 0) (v := nI ln.length) C dX7_share_20 21 rfl rfl rfl hcI 12 rfl (by omega) (by decide) (hm2.2.2.1) ?_
    refine q_aload_n C dX7_share_21 22 0 rfl rfl ?_
    refine q_callV (k := 0) (ci := 6) (n := 0) (rest := [.int (nI ln.length)]) (Rr := []) C rfl (k_isP_recv hPo1) rfl (c_X7_errors l hZ hI h0 aS aZ aV aN aU aD fd hh ([(h0, .inr (6, [.int (fd 0), .ref aS, .ref aZ, .ref aV, .int (fd 4), .ref aN, .int (fd 6), .ref aU, .int (fd 8), .int (fd 9), .int (fd 10), .ref aD, .int (fd 12), .int (fd 13), .int (fd 14), .long hh]))]) hPo1 bx at0 ln sc ([(aS, .inl (cI, 350, .inl f2))]) hQo2) gX7_share_X7_errors rfl rfl rfl (by decide +kernel) B.1 ⟨Nat.le_of_ble_eq_true rfl, Nat.le_of_ble_eq_true rfl⟩ rfl rfl (Nat.le_of_ble_eq_true rfl) dX7_share_22 ⟨Nat.le_of_ble_eq_true rfl, Nat.le_of_ble_eq_true rfl⟩ [0, 1] [] (by decide : ([0, 1] ++ ([] : List Nat)).Perm (List.range 2)) rfl rfl 25 rfl (fun v0 R0 t0 ht0 hp0 => ?_)
    obtain ⟨rfl, rfl⟩ := hp0
    refine q_eqs (st' := [.int (nI (k_er ln)), .int (nI ln.length)]) rfl ?_
    refine q_eqR (Rs' := [[(h0, .inr (6, [.int (fd 0), .ref aS, .ref aZ, .ref aV, .int (fd 4), .ref aN, .int (fd 6), .ref aU, .int (fd 8), .int (fd 9), .int (fd 10), .ref aD, .int (fd 12), .int (fd 13), .int (fd 14), .long hh]))], [(aS, .inl (cI, 350, .inl f2))]]) rfl ?_
    have hc22 : k_er ln ≤ (ln).length := k_er_le _
    refine q_isub (v := nI (ln.length - k_er ln)) C dX7_share_25 26 rfl (q_nsub (by omega) rfl) ?_
    refine q_i2d C dX7_share_26 27 rfl ?_
    refine q_aload_n C dX7_share_27 28 0 rfl rfl ?_
    refine q_get (k := 0) (j := 0) (f := 1) C hinX7 f7 (fun _ h => h) (by decide) rfl dX7_share_28 31 rfl rfl rfl rfl ?_
    refine q_bipush (v := nI 12) C dX7_share_31 33 rfl (by decide) ?_
    refine q_iald (k := 1) (j := 0) (v := nI ln.length) C dX7_share_33 34 rfl rfl rfl hcI 12 rfl (by omega) (by decide) (hm2.2.2.1) ?_
    refine q_i2d C dX7_share_34 35 rfl ?_
    refine q_ddiv C dX7_share_35 36 rfl (k_shq_nn (by omega) (by omega) (by omega)) rfl ?_
    exact q_dret C B dX7_share_36 rfl rfl (fun t0 ht0 => ⟨by rw [k_sh_n (by omega)], rfl⟩)
  · refine q_dconst1 C dX7_share_10 11 rfl ?_
    refine q_goto C dX7_share_11 36 (by decide) ?_
    exact q_dret C B dX7_share_36 rfl rfl (fun t0 ht0 => ⟨by rw [k_sh_0 (by omega)], rfl⟩)

set_option maxHeartbeats 400000 in
set_option maxRecDepth 100000 in
theorem c_X7_rightShare (l : Launch) {D : va_G} {tys : List (ClassId × FieldType)} {Z : (Nat → Prop) → State → Heap → Prop} (hZ : q_St Z) {cI : ClassId} (hI : tys[0]? = some (cI, .int)) (h0 : Nat) (aS : Nat) (aZ : Nat) (aV : Nat) (aN : Nat) (aU : Nat) (aD : Nat) (fd : Nat → Int32) (hh : Int64) (wP : va_W) (hP : k_isP cI h0 aS aZ aV aN aU aD fd hh wP) (bx : k_Bx) (at0 : Nat) (ln : List (Nat × Nat)) (sc : Nat → Int32) (wQ : va_W) (hQ : k_isQ cI aS bx at0 ln sc wQ) : q_Ct l D tys Z yX7_rightShare wsX7_rightShare ({ frames := 4, cells := 0, slots := 0, locals := 132 } : Room) 0 0 [.ref h0] [wP, wQ] (fun v0 R0 _ => v0 = some (.double (k_sh ln)) ∧ ∃ wP', k_isP cI h0 aS aZ aV aN aU aD (upd fd 0 (nI 0)) hh wP' ∧ R0 = [wP', wQ]) := by
  have hcI := hI
  refine q_ct (cc := cX7_rightShare) (maxL := 1) (ret := (some .double)) (own := RX7) (by decide) rfl hZ (Nat.le_of_ble_eq_true rfl) rfl ?_
  intro p9 e9 R s9 m9 args below meth c9 A Q C B
  have hts := C.2.2.2.2.1
  have hinX7 : ∀ w ∈ u_ws RX7 TX7 16, w ∈ wsX7_rightShare := by decide +kernel
  have f28 := hts (.fieldLink RX7 28 "SortCasesModel" "thrown" "I") (by decide +kernel)
  refine q_eqL (L' := [(0, .ref h0)]) rfl ?_
  refine q_aload_n C dX7_rightShare_0 1 0 rfl rfl ?_
  refine q_iconst (v := nI 0) C dX7_rightShare_1 2 rfl (by decide) ?_
  obtain rfl := hP
  have hPo1 : k_isP cI h0 aS aZ aV aN aU aD fd hh [(h0, .inr (6, [.int (fd 0), .ref aS, .ref aZ, .ref aV, .int (fd 4), .ref aN, .int (fd 6), .ref aU, .int (fd 8), .int (fd 9), .int (fd 10), .ref aD, .int (fd 12), .int (fd 13), .int (fd 14), .long hh]))] := rfl
  refine q_put (k := 0) (j := 0) (f := 0) C hinX7 tyX7 tyX7_ok nmX7 f28 (fun _ h => h) (by decide) rfl rfl (tyX7_ok 0 (by decide)) rfl rfl dX7_rightShare_2 5 rfl rfl rfl (Nat.le_of_ble_eq_true rfl) [[(h0, .inr (6, [.int (nI 0), .ref aS, .ref aZ, .ref aV, .int (fd 4), .ref aN, .int (fd 6), .ref aU, .int (fd 8), .int (fd 9), .int (fd 10), .ref aD, .int (fd 12), .int (fd 13), .int (fd 14), .long hh]))], wQ] rfl ?_
  have hPp2 : k_isP cI h0 aS aZ aV aN aU aD (upd fd 0 (nI 0)) hh [(h0, .inr (6, [.int (nI 0), .ref aS, .ref aZ, .ref aV, .int (fd 4), .ref aN, .int (fd 6), .ref aU, .int (fd 8), .int (fd 9), .int (fd 10), .ref aD, .int (fd 12), .int (fd 13), .int (fd 14), .long hh]))] := rfl
  refine q_aload_n C dX7_rightShare_5 6 0 rfl rfl ?_
  refine q_callV (k := 0) (ci := 6) (n := 0) (rest := []) (Rr := []) C rfl (k_isP_recv hPp2) rfl (c_X7_share l hZ hI h0 aS aZ aV aN aU aD (upd fd 0 (nI 0)) hh ([(h0, .inr (6, [.int (nI 0), .ref aS, .ref aZ, .ref aV, .int (fd 4), .ref aN, .int (fd 6), .ref aU, .int (fd 8), .int (fd 9), .int (fd 10), .ref aD, .int (fd 12), .int (fd 13), .int (fd 14), .long hh]))]) hPp2 bx at0 ln sc wQ hQ) gX7_rightShare_X7_share rfl rfl rfl (by decide +kernel) B.1 ⟨Nat.le_of_ble_eq_true rfl, Nat.le_of_ble_eq_true rfl⟩ rfl rfl (Nat.le_of_ble_eq_true rfl) dX7_rightShare_6 ⟨Nat.le_of_ble_eq_true rfl, Nat.le_of_ble_eq_true rfl⟩ [0, 1] [] (by decide : ([0, 1] ++ ([] : List Nat)).Perm (List.range 2)) rfl rfl 9 rfl (fun v0 R0 t0 ht0 hp0 => ?_)
  obtain ⟨rfl, rfl⟩ := hp0
  refine q_eqs (st' := [.double (k_sh ln)]) rfl ?_
  refine q_eqR (Rs' := [[(h0, .inr (6, [.int (nI 0), .ref aS, .ref aZ, .ref aV, .int (fd 4), .ref aN, .int (fd 6), .ref aU, .int (fd 8), .int (fd 9), .int (fd 10), .ref aD, .int (fd 12), .int (fd 13), .int (fd 14), .long hh]))], wQ]) rfl ?_
  exact q_dret C B dX7_rightShare_9 rfl rfl (fun t0 ht0 => ⟨rfl, _, hPp2, by first | rfl | simp⟩)

set_option maxHeartbeats 400000 in
set_option maxRecDepth 100000 in
theorem c_X7_hashes (l : Launch) {D : va_G} {tys : List (ClassId × FieldType)} {Z : (Nat → Prop) → State → Heap → Prop} (hZ : q_St Z) {cI : ClassId} (hI : tys[0]? = some (cI, .int)) (h0 : Nat) (aS : Nat) (aZ : Nat) (aV : Nat) (aN : Nat) (aU : Nat) (aD : Nat) (fd : Nat → Int32) (hh : Int64) (w : va_W) (h : k_isP cI h0 aS aZ aV aN aU aD fd hh w) (v : Int64) : q_Ct l D tys Z yX7_hashes wsX7_hashes ({ frames := 1, cells := 0, slots := 0, locals := 42 } : Room) 0 0 [.ref h0, .long v] [w] (fun v0 R0 _ => v0 = none ∧ ∃ w', k_isP cI h0 aS aZ aV aN aU aD fd (31 * hh + v) w' ∧ R0 = [w']) := by
  have hcI := hI
  refine q_ct (cc := cX7_hashes) (maxL := 3) (ret := none) (own := RX7) (by decide) rfl hZ (Nat.le_of_ble_eq_true rfl) rfl ?_
  intro p9 e9 R s9 m9 args below meth c9 A Q C B
  have hts := C.2.2.2.2.1
  have cst226 := hts (.constantLong RX7 226 31) (by decide +kernel)
  have hinX7 : ∀ w ∈ u_ws RX7 TX7 16, w ∈ wsX7_hashes := by decide +kernel
  have f228 := hts (.fieldLink RX7 228 "SortCasesModel" "hash" "J") (by decide +kernel)
  refine q_eqL (L' := [(0, .ref h0), (1, .long v)]) rfl ?_
  refine q_aload_n C dX7_hashes_0 1 0 rfl rfl ?_
  refine q_ldc2 C cst226 dX7_hashes_1 4 rfl ?_
  refine q_aload_n C dX7_hashes_4 5 0 rfl rfl ?_
  obtain rfl := h
  have hPo1 : k_isP cI h0 aS aZ aV aN aU aD fd hh [(h0, .inr (6, [.int (fd 0), .ref aS, .ref aZ, .ref aV, .int (fd 4), .ref aN, .int (fd 6), .ref aU, .int (fd 8), .int (fd 9), .int (fd 10), .ref aD, .int (fd 12), .int (fd 13), .int (fd 14), .long hh]))] := rfl
  refine q_get (k := 0) (j := 0) (f := 15) C hinX7 f228 (fun _ h => h) (by decide) rfl dX7_hashes_5 8 rfl rfl rfl rfl ?_
  refine q_lmul (v := 31 * hh) C dX7_hashes_8 9 rfl rfl ?_
  refine q_lload_n C dX7_hashes_9 10 1 rfl rfl ?_
  refine q_ladd (v := (31 * hh) + v) C dX7_hashes_10 11 rfl rfl ?_
  refine q_put (k := 0) (j := 0) (f := 15) C hinX7 tyX7 tyX7_ok nmX7 f228 (fun _ h => h) (by decide) rfl rfl (tyX7_ok 15 (by decide)) rfl rfl dX7_hashes_11 14 rfl rfl rfl (Nat.le_of_ble_eq_true rfl) [[(h0, .inr (6, [.int (fd 0), .ref aS, .ref aZ, .ref aV, .int (fd 4), .ref aN, .int (fd 6), .ref aU, .int (fd 8), .int (fd 9), .int (fd 10), .ref aD, .int (fd 12), .int (fd 13), .int (fd 14), .long ((31 * hh) + v)]))]] rfl ?_
  have hPp2 : k_isP cI h0 aS aZ aV aN aU aD fd ((31 * hh) + v) [(h0, .inr (6, [.int (fd 0), .ref aS, .ref aZ, .ref aV, .int (fd 4), .ref aN, .int (fd 6), .ref aU, .int (fd 8), .int (fd 9), .int (fd 10), .ref aD, .int (fd 12), .int (fd 13), .int (fd 14), .long ((31 * hh) + v)]))] := rfl
  exact q_vret C B dX7_hashes_14 rfl rfl (fun t0 ht0 => ⟨rfl, _, hPp2, rfl⟩)

set_option maxHeartbeats 400000 in
set_option maxRecDepth 100000 in
theorem c_X7_hashesBox (l : Launch) {D : va_G} {tys : List (ClassId × FieldType)} {Z : (Nat → Prop) → State → Heap → Prop} (hZ : q_St Z) {cI : ClassId} (hI : tys[0]? = some (cI, .int)) (h0 : Nat) (aS : Nat) (aZ : Nat) (aV : Nat) (aN : Nat) (aU : Nat) (aD : Nat) (fd : Nat → Int32) (hh : Int64) (wP : va_W) (hP : k_isP cI h0 aS aZ aV aN aU aD fd hh wP) (bx : k_Bx) (at0 : Nat) (ln : List (Nat × Nat)) (sc : Nat → Int32) (wQ : va_W) (hQ : k_isQ cI aS bx at0 ln sc wQ) (zbx : k_Bx) (zat0 : Nat) (zln : List (Nat × Nat)) (zsc : Nat → Int32) (zw : va_W) (zh : k_isQ cI aZ zbx zat0 zln zsc zw) (b : Nat) (hb : b < 12) (hm0 : ∃ m, m ≤ 120 ∧ sc 0 = nI m) (hs1 : sc 1 = nI (k_n1 sc)) (hs9 : k_n1 sc ≤ 9) : q_Ct l D tys Z yX7_hashesBox wsX7_hashesBox ({ frames := 8, cells := 0, slots := 0, locals := 252 } : Room) 0 0 [.ref h0, .int (nI b)] [wP, wQ, zw] (fun v0 R0 _ => v0 = none ∧ ∃ wP', k_isP cI h0 aS aZ aV aN aU aD fd (k_hb bx at0 ln sc b hh) wP' ∧ ∃ wQ', k_isQ cI aS bx at0 ln sc wQ' ∧ ∃ zw', k_isQ cI aZ bx at0 ln sc zw' ∧ R0 = [wP', wQ', zw']) := by
  have hcI := hI
  refine q_ct (cc := cX7_hashesBox) (maxL := 3) (ret := none) (own := RX7) (by decide) rfl hZ (Nat.le_of_ble_eq_true rfl) rfl ?_
  intro p9 e9 R s9 m9 args below meth c9 A Q C B
  have hts := C.2.2.2.2.1
  refine q_eqL (L' := [(0, .ref h0), (1, .int (nI b))]) rfl ?_
  refine q_iconst (v := nI 0) C dX7_hashesBox_0 1 rfl (by decide) ?_
  refine q_istore_n C dX7_hashesBox_1 2 rfl [(2, .int (nI 0)), (0, .ref h0), (1, .int (nI b))] (by decide) rfl ?_
  have lp : ∀ (kk : Nat) (i : Nat) (wp : va_W), 7 - i < kk → ∀ (hii : i ≤ 7), ∀ (hwp : k_isP cI h0 aS aZ aV aN aU aD fd (k_hf (k_tb bx at0 sc b) hh i) wp), q_V p9 l e9 R s9 m9 args below meth c9 D A 3 Q 0 0 2 [(2, .int (nI i)), (0, .ref h0), (1, .int (nI b))] [] [wp, wQ, zw] := by
    intro kk
    induction kk with
    | zero => intro i wp hkk; exact absurd hkk (Nat.not_lt_zero _)
    | succ kk ih_lp =>
      intro i wp hkk hii hwp
      refine q_iload_n C dX7_hashesBox_2 3 0 rfl rfl ?_
      refine q_bipush (v := nI 7) C dX7_hashesBox_3 5 rfl (by decide) ?_
      refine q_icmp_ge C dX7_hashesBox_5 8 25 rfl (by decide) (nI_leI (by omega) (by omega)) (fun h5 => ?_) (fun h5 => ?_)
      · refine q_aload_n C dX7_hashesBox_25 26 1 rfl rfl ?_
        refine q_aload_n C dX7_hashesBox_26 27 1 rfl rfl ?_
        refine q_iload_n C dX7_hashesBox_27 28 2 rfl rfl ?_
        refine q_callV (k := 0) (ci := 6) (n := 1) (rest := [.ref h0]) (Rr := [zw]) C rfl (k_isP_recv hwp) rfl (c_X7_refusesLetter l hZ hI h0 aS aZ aV aN aU aD fd ((k_hf (k_tb bx at0 sc b) hh i)) wp hwp bx at0 ln sc wQ hQ b (by omega)) gX7_hashesBox_X7_refusesLetter rfl rfl rfl (by decide +kernel) B.1 ⟨Nat.le_of_ble_eq_true rfl, Nat.le_of_ble_eq_true rfl⟩ rfl rfl (Nat.le_of_ble_eq_true rfl) dX7_hashesBox_28 ⟨Nat.le_of_ble_eq_true rfl, Nat.le_of_ble_eq_true rfl⟩ [0, 1] [2] (by decide : ([0, 1] ++ ([2] : List Nat)).Perm (List.range 3)) rfl rfl 31 rfl (fun v0 R0 t0 ht0 hp0 => ?_)
        obtain ⟨rfl, rfl⟩ := hp0
        refine q_eqs (st' := [.int (nI (k_wn bx ln sc b)), .ref h0]) rfl ?_
        refine q_eqR (Rs' := [wp, wQ, zw]) rfl ?_
        have hw28 : k_wn bx ln sc b ≤ 2 := k_wn_le _ _ _ _
        refine q_i2l (v := ((nI (k_wn bx ln sc b)) : Int32).toInt64) C dX7_hashesBox_31 32 rfl rfl ?_
        refine q_callV (k := 0) (ci := 6) (n := 1) (rest := []) (Rr := [wQ, zw]) C rfl (k_isP_recv hwp) rfl (c_X7_hashes l hZ hI h0 aS aZ aV aN aU aD fd ((k_hf (k_tb bx at0 sc b) hh i)) wp hwp (((nI (k_wn bx ln sc b)) : Int32).toInt64)) gX7_hashesBox_X7_hashes rfl rfl rfl (by decide +kernel) B.1 ⟨Nat.le_of_ble_eq_true rfl, Nat.le_of_ble_eq_true rfl⟩ rfl rfl (Nat.le_of_ble_eq_true rfl) dX7_hashesBox_32 ⟨Nat.le_of_ble_eq_true rfl, Nat.le_of_ble_eq_true rfl⟩ [0] [1, 2] (by decide : ([0] ++ ([1, 2] : List Nat)).Perm (List.range 3)) rfl rfl 35 rfl (fun v0 R0 t0 ht0 hp0 => ?_)
        obtain ⟨rfl, w_32, hw_32, rfl⟩ := hp0
        refine q_eqs (st' := []) rfl ?_
        refine q_eqR (Rs' := [w_32, wQ, zw]) rfl ?_
        refine q_aload_n C dX7_hashesBox_35 36 1 rfl rfl ?_
        refine q_aload_n C dX7_hashesBox_36 37 1 rfl rfl ?_
        refine q_iload_n C dX7_hashesBox_37 38 2 rfl rfl ?_
        refine q_iconst (v := nI 3) C dX7_hashesBox_38 39 rfl (by decide) ?_
        refine q_callV (k := 0) (ci := 6) (n := 2) (rest := [.ref h0]) (Rr := []) C rfl (k_isP_recv hw_32) rfl (c_X7_wouldSet l hZ hI h0 aS aZ aV aN aU aD fd (31 * ((k_hf (k_tb bx at0 sc b) hh i)) + (((nI (k_wn bx ln sc b)) : Int32).toInt64)) w_32 hw_32 bx at0 ln sc wQ hQ zbx zat0 zln zsc zw zh b 3 (by omega) (by omega) hm0 hs1 hs9) gX7_hashesBox_X7_wouldSet rfl rfl rfl (by decide +kernel) B.1 ⟨Nat.le_of_ble_eq_true rfl, Nat.le_of_ble_eq_true rfl⟩ rfl rfl (Nat.le_of_ble_eq_true rfl) dX7_hashesBox_39 ⟨Nat.le_of_ble_eq_true rfl, Nat.le_of_ble_eq_true rfl⟩ [0, 1, 2] [] (by decide : ([0, 1, 2] ++ ([] : List Nat)).Perm (List.range 3)) rfl rfl 42 rfl (fun v0 R0 t0 ht0 hp0 => ?_)
        obtain ⟨rfl, wQ_39, hwQ_39, wz_39, hwz_39, rfl⟩ := hp0
        refine q_eqs (st' := [.int (nI (k_ie bx ln sc b 3)), .ref h0]) rfl ?_
        refine q_eqR (Rs' := [w_32, wQ_39, wz_39]) rfl ?_
        have hw39 : k_ie bx ln sc b 3 ≤ 20 := (Nat.le_trans (k_ie_le _ _ _ _ _) (by omega))
        refine q_i2l (v := ((nI (k_ie bx ln sc b 3)) : Int32).toInt64) C dX7_hashesBox_42 43 rfl rfl ?_
        refine q_callV (k := 0) (ci := 6) (n := 1) (rest := []) (Rr := [wQ_39, wz_39]) C rfl (k_isP_recv hw_32) rfl (c_X7_hashes l hZ hI h0 aS aZ aV aN aU aD fd (31 * ((k_hf (k_tb bx at0 sc b) hh i)) + (((nI (k_wn bx ln sc b)) : Int32).toInt64)) w_32 hw_32 (((nI (k_ie bx ln sc b 3)) : Int32).toInt64)) gX7_hashesBox_X7_hashes rfl rfl rfl (by decide +kernel) B.1 ⟨Nat.le_of_ble_eq_true rfl, Nat.le_of_ble_eq_true rfl⟩ rfl rfl (Nat.le_of_ble_eq_true rfl) dX7_hashesBox_43 ⟨Nat.le_of_ble_eq_true rfl, Nat.le_of_ble_eq_true rfl⟩ [0] [1, 2] (by decide : ([0] ++ ([1, 2] : List Nat)).Perm (List.range 3)) rfl rfl 46 rfl (fun v0 R0 t0 ht0 hp0 => ?_)
        obtain ⟨rfl, w_43, hw_43, rfl⟩ := hp0
        refine q_eqs (st' := []) rfl ?_
        refine q_eqR (Rs' := [w_43, wQ_39, wz_39]) rfl ?_
        refine q_aload_n C dX7_hashesBox_46 47 1 rfl rfl ?_
        refine q_iload_n C dX7_hashesBox_47 48 2 rfl rfl ?_
        refine q_callV (k := 0) (ci := 6) (n := 1) (rest := []) (Rr := [wz_39]) C rfl (k_isP_recv hw_43) rfl (c_X7_many_q l hZ hI h0 aS aZ aV aN aU aD fd (31 * (31 * ((k_hf (k_tb bx at0 sc b) hh i)) + (((nI (k_wn bx ln sc b)) : Int32).toInt64)) + (((nI (k_ie bx ln sc b 3)) : Int32).toInt64)) w_43 hw_43 bx at0 ln sc wQ_39 hwQ_39 b (by omega)) gX7_hashesBox_X7_many rfl rfl rfl (by decide +kernel) B.1 ⟨Nat.le_of_ble_eq_true rfl, Nat.le_of_ble_eq_true rfl⟩ rfl rfl (Nat.le_of_ble_eq_true rfl) dX7_hashesBox_48 ⟨Nat.le_of_ble_eq_true rfl, Nat.le_of_ble_eq_true rfl⟩ [0, 1] [2] (by decide : ([0, 1] ++ ([2] : List Nat)).Perm (List.range 3)) rfl rfl 51 rfl (fun v0 R0 t0 ht0 hp0 => ?_)
        obtain ⟨rfl, rfl⟩ := hp0
        refine q_eqs (st' := [.int (nI ((bx b).length))]) rfl ?_
        refine q_eqR (Rs' := [w_43, wQ_39, wz_39]) rfl ?_
        have hh48 : (bx b).length ≤ 20 := (hwQ_39.2.1 b (by omega)).1
        refine q_iconst (v := nI 1) C dX7_hashesBox_51 52 rfl (by decide) ?_
        refine q_isub (v := k_pl (bx b).length) C dX7_hashesBox_52 53 rfl rfl ?_
        refine q_istore_n C dX7_hashesBox_53 54 rfl [(2, .int (k_pl (bx b).length)), (0, .ref h0), (1, .int (nI b))] (by decide) rfl ?_
        have lp2 : ∀ (kk : Nat) (n : Nat) (wp : va_W), n < kk → ∀ (hn : n ≤ (bx b).length), ∀ (hwp : k_isP cI h0 aS aZ aV aN aU aD fd (k_hf (fun d => nI (k_at (bx b) ((bx b).length - 1 - d))) (31 * (31 * k_hf (k_tb bx at0 sc b) hh 7 + (nI (k_wn bx ln sc b)).toInt64) + (nI (k_ie bx ln sc b 3)).toInt64) ((bx b).length - n)) wp), q_V p9 l e9 R s9 m9 args below meth c9 D A 3 Q 0 0 54 [(2, .int (k_pl n)), (0, .ref h0), (1, .int (nI b))] [] [wp, wQ_39, wz_39] := by
          intro kk
          induction kk with
          | zero => intro n wp hkk; exact absurd hkk (Nat.not_lt_zero _)
          | succ kk ih_lp2 =>
            intro n wp hkk hn hwp
            refine q_iload_n C dX7_hashesBox_54 55 0 rfl rfl ?_
            refine q_if_lt (P := n = 0) C dX7_hashesBox_55 58 75 rfl (by decide) (k_pl_lt (by omega)) (fun h55 => ?_) (fun h55 => ?_)
            · subst h55
              rw [Nat.sub_zero] at hwp
              exact q_vret C B dX7_hashesBox_75 rfl rfl (fun t0 ht0 => ⟨rfl, _, hwp, _, hwQ_39, _, hwz_39, rfl⟩)
            · refine q_eqL (L' := [(2, .int (nI (n - 1))), (0, .ref h0), (1, .int (nI b))]) (by rw [k_pl_s (by omega)]) ?_
              refine q_aload_n C dX7_hashesBox_58 59 1 rfl rfl ?_
              refine q_aload_n C dX7_hashesBox_59 60 1 rfl rfl ?_
              refine q_iload_n C dX7_hashesBox_60 61 2 rfl rfl ?_
              refine q_iload_n C dX7_hashesBox_61 62 0 rfl rfl ?_
              refine q_callV (k := 0) (ci := 6) (n := 2) (rest := [.ref h0]) (Rr := [wz_39]) C rfl (k_isP_recv hwp) rfl (c_X7_typeAt_q l hZ hI h0 aS aZ aV aN aU aD fd ((k_hf (fun d => nI (k_at (bx b) ((bx b).length - 1 - d))) (31 * (31 * k_hf (k_tb bx at0 sc b) hh 7 + (nI (k_wn bx ln sc b)).toInt64) + (nI (k_ie bx ln sc b 3)).toInt64) ((bx b).length - n))) wp hwp bx at0 ln sc wQ_39 hwQ_39 b (n - 1) (by omega) (by omega)) gX7_hashesBox_X7_typeAt rfl rfl rfl (by decide +kernel) B.1 ⟨Nat.le_of_ble_eq_true rfl, Nat.le_of_ble_eq_true rfl⟩ rfl rfl (Nat.le_of_ble_eq_true rfl) dX7_hashesBox_62 ⟨Nat.le_of_ble_eq_true rfl, Nat.le_of_ble_eq_true rfl⟩ [0, 1] [2] (by decide : ([0, 1] ++ ([2] : List Nat)).Perm (List.range 3)) rfl rfl 65 rfl (fun v0 R0 t0 ht0 hp0 => ?_)
              obtain ⟨rfl, rfl⟩ := hp0
              refine q_eqs (st' := [.int (nI (k_at (bx b) (n - 1))), .ref h0]) rfl ?_
              refine q_eqR (Rs' := [wp, wQ_39, wz_39]) rfl ?_
              have ht62 : k_at (bx b) (n - 1) < 12 := k_at_lt (hwQ_39.2.1 b (by omega)).2 (by omega)
              refine q_i2l (v := ((nI (k_at (bx b) (n - 1))) : Int32).toInt64) C dX7_hashesBox_65 66 rfl rfl ?_
              refine q_callV (k := 0) (ci := 6) (n := 1) (rest := []) (Rr := [wQ_39, wz_39]) C rfl (k_isP_recv hwp) rfl (c_X7_hashes l hZ hI h0 aS aZ aV aN aU aD fd ((k_hf (fun d => nI (k_at (bx b) ((bx b).length - 1 - d))) (31 * (31 * k_hf (k_tb bx at0 sc b) hh 7 + (nI (k_wn bx ln sc b)).toInt64) + (nI (k_ie bx ln sc b 3)).toInt64) ((bx b).length - n))) wp hwp (((nI (k_at (bx b) (n - 1))) : Int32).toInt64)) gX7_hashesBox_X7_hashes rfl rfl rfl (by decide +kernel) B.1 ⟨Nat.le_of_ble_eq_true rfl, Nat.le_of_ble_eq_true rfl⟩ rfl rfl (Nat.le_of_ble_eq_true rfl) dX7_hashesBox_66 ⟨Nat.le_of_ble_eq_true rfl, Nat.le_of_ble_eq_true rfl⟩ [0] [1, 2] (by decide : ([0] ++ ([1, 2] : List Nat)).Perm (List.range 3)) rfl rfl 69 rfl (fun v0 R0 t0 ht0 hp0 => ?_)
              obtain ⟨rfl, w_66, hw_66, rfl⟩ := hp0
              refine q_eqs (st' := []) rfl ?_
              refine q_eqR (Rs' := [w_66, wQ_39, wz_39]) rfl ?_
              refine q_iinc (v := k_pl (n - 1)) C dX7_hashesBox_69 72 0 rfl rfl (k_pl_dec _) [(2, .int (k_pl (n - 1))), (0, .ref h0), (1, .int (nI b))] (by decide) rfl ?_
              refine q_goto C dX7_hashesBox_72 54 (by decide) ?_
              refine q_sub (L' := [(2, .int (k_pl (n - 1))), (0, .ref h0), (1, .int (nI b))]) [0, 1, 2] rfl ?_
              exact ih_lp2 (n - 1) w_66 (by omega) (by omega) (by rw [show (bx b).length - (n - 1) = (bx b).length - n + 1 by omega, k_hf_s]; rw [show (bx b).length - 1 - ((bx b).length - n) = n - 1 by omega]; exact hw_66)
        refine q_sub (L' := [(2, .int (k_pl (bx b).length)), (0, .ref h0), (1, .int (nI b))]) [0, 1, 2] rfl ?_
        exact lp2 _ ((bx b).length) w_43 (Nat.lt_succ_self _) (by omega) (by rw [Nat.sub_self, k_hf_0]; rw [show 7 = i by omega]; exact hw_43)
      · refine q_aload_n C dX7_hashesBox_8 9 1 rfl rfl ?_
        refine q_aload_n C dX7_hashesBox_9 10 1 rfl rfl ?_
        refine q_iload_n C dX7_hashesBox_10 11 2 rfl rfl ?_
        refine q_iload_n C dX7_hashesBox_11 12 0 rfl rfl ?_
        refine q_callV (k := 0) (ci := 6) (n := 2) (rest := [.ref h0]) (Rr := [zw]) C rfl (k_isP_recv hwp) rfl (c_X7_tellsBox l hZ hI h0 aS aZ aV aN aU aD fd ((k_hf (k_tb bx at0 sc b) hh i)) wp hwp bx at0 ln sc wQ hQ b i (by omega) (by omega)) gX7_hashesBox_X7_tellsBox rfl rfl rfl (by decide +kernel) B.1 ⟨Nat.le_of_ble_eq_true rfl, Nat.le_of_ble_eq_true rfl⟩ rfl rfl (Nat.le_of_ble_eq_true rfl) dX7_hashesBox_12 ⟨Nat.le_of_ble_eq_true rfl, Nat.le_of_ble_eq_true rfl⟩ [0, 1] [2] (by decide : ([0, 1] ++ ([2] : List Nat)).Perm (List.range 3)) rfl rfl 15 rfl (fun v0 R0 t0 ht0 hp0 => ?_)
        obtain ⟨rfl, rfl⟩ := hp0
        refine q_eqs (st' := [.int (k_tb bx at0 sc b i), .ref h0]) rfl ?_
        refine q_eqR (Rs' := [wp, wQ, zw]) rfl ?_
        refine q_i2l (v := ((k_tb bx at0 sc b i) : Int32).toInt64) C dX7_hashesBox_15 16 rfl rfl ?_
        refine q_callV (k := 0) (ci := 6) (n := 1) (rest := []) (Rr := [wQ, zw]) C rfl (k_isP_recv hwp) rfl (c_X7_hashes l hZ hI h0 aS aZ aV aN aU aD fd ((k_hf (k_tb bx at0 sc b) hh i)) wp hwp (((k_tb bx at0 sc b i) : Int32).toInt64)) gX7_hashesBox_X7_hashes rfl rfl rfl (by decide +kernel) B.1 ⟨Nat.le_of_ble_eq_true rfl, Nat.le_of_ble_eq_true rfl⟩ rfl rfl (Nat.le_of_ble_eq_true rfl) dX7_hashesBox_16 ⟨Nat.le_of_ble_eq_true rfl, Nat.le_of_ble_eq_true rfl⟩ [0] [1, 2] (by decide : ([0] ++ ([1, 2] : List Nat)).Perm (List.range 3)) rfl rfl 19 rfl (fun v0 R0 t0 ht0 hp0 => ?_)
        obtain ⟨rfl, w_16, hw_16, rfl⟩ := hp0
        refine q_eqs (st' := []) rfl ?_
        refine q_eqR (Rs' := [w_16, wQ, zw]) rfl ?_
        refine q_iinc (v := nI (i + 1)) C dX7_hashesBox_19 22 0 rfl rfl (q_ninc1 (by omega)) [(2, .int (nI (i + 1))), (0, .ref h0), (1, .int (nI b))] (by decide) rfl ?_
        refine q_goto C dX7_hashesBox_22 2 (by decide) ?_
        refine q_sub (L' := [(2, .int (nI (i + 1))), (0, .ref h0), (1, .int (nI b))]) [0, 1, 2] rfl ?_
        exact ih_lp (i + 1) w_16 (by omega) (by omega) hw_16
  refine q_sub (L' := [(2, .int (nI 0)), (0, .ref h0), (1, .int (nI b))]) [0, 1, 2] rfl ?_
  exact lp _ 0 wP (Nat.lt_succ_self _) (by omega) hP

set_option maxHeartbeats 400000 in
set_option maxRecDepth 100000 in
theorem c_X7_hashesLine (l : Launch) {D : va_G} {tys : List (ClassId × FieldType)} {Z : (Nat → Prop) → State → Heap → Prop} (hZ : q_St Z) {cI : ClassId} (hI : tys[0]? = some (cI, .int)) (h0 : Nat) (aS : Nat) (aZ : Nat) (aV : Nat) (aN : Nat) (aU : Nat) (aD : Nat) (fd : Nat → Int32) (hh : Int64) (wP : va_W) (hP : k_isP cI h0 aS aZ aV aN aU aD fd hh wP) (bx : k_Bx) (at0 : Nat) (ln : List (Nat × Nat)) (sc : Nat → Int32) (wQ : va_W) (hQ : k_isQ cI aS bx at0 ln sc wQ) : q_Ct l D tys Z yX7_hashesLine wsX7_hashesLine ({ frames := 5, cells := 0, slots := 0, locals := 162 } : Room) 0 0 [.ref h0] [wP, wQ] (fun v0 R0 _ => v0 = none ∧ ∃ wP', k_isP cI h0 aS aZ aV aN aU aD fd (k_hl bx ln sc hh) wP' ∧ R0 = [wP', wQ]) := by
  have hcI := hI
  refine q_ct (cc := cX7_hashesLine) (maxL := 2) (ret := none) (own := RX7) (by decide) rfl hZ (Nat.le_of_ble_eq_true rfl) rfl ?_
  intro p9 e9 R s9 m9 args below meth c9 A Q C B
  have hts := C.2.2.2.2.1
  have hinX7 : ∀ w ∈ u_ws RX7 TX7 16, w ∈ wsX7_hashesLine := by decide +kernel
  have f7 := hts (.fieldLink RX7 7 "SortCasesModel" "s" "[I") (by decide +kernel)
  refine q_eqL (L' := [(0, .ref h0)]) rfl ?_
  obtain ⟨hat1, hok1, hlok1, f1, hm1, rfl⟩ := hQ
  have hll1 := hlok1.1
  have hQo1 : k_isQ cI aS bx at0 ln sc [(aS, .inl (cI, 350, .inl f1))] := ⟨hat1, hok1, hlok1, f1, hm1, rfl⟩
  refine q_iconst (v := nI 0) C dX7_hashesLine_0 1 rfl (by decide) ?_
  refine q_istore_n C dX7_hashesLine_1 2 rfl [(1, .int (nI 0)), (0, .ref h0)] (by decide) rfl ?_
  have lp : ∀ (kk : Nat) (i : Nat) (wp : va_W), (4 * ln.length) - i < kk → ∀ (hii : i ≤ (4 * ln.length)), ∀ (hwp : k_isP cI h0 aS aZ aV aN aU aD fd (k_hp bx ln sc hh i) wp), q_V p9 l e9 R s9 m9 args below meth c9 D A 2 Q 0 0 2 [(1, .int (nI i)), (0, .ref h0)] [] [wp, [(aS, .inl (cI, 350, .inl f1))]] := by
    intro kk
    induction kk with
    | zero => intro i wp hkk; exact absurd hkk (Nat.not_lt_zero _)
    | succ kk ih_lp =>
      intro i wp hkk hii hwp
      refine q_iload_n C dX7_hashesLine_2 3 0 rfl rfl ?_
      refine q_iconst (v := nI 4) C dX7_hashesLine_3 4 rfl (by decide) ?_
      refine q_aload_n C dX7_hashesLine_4 5 1 rfl rfl ?_
      obtain rfl := hwp
      have hPo2 : k_isP cI h0 aS aZ aV aN aU aD fd ((k_hp bx ln sc hh i)) [(h0, .inr (6, [.int (fd 0), .ref aS, .ref aZ, .ref aV, .int (fd 4), .ref aN, .int (fd 6), .ref aU, .int (fd 8), .int (fd 9), .int (fd 10), .ref aD, .int (fd 12), .int (fd 13), .int (fd 14), .long ((k_hp bx ln sc hh i))]))] := rfl
      refine q_get (k := 0) (j := 0) (f := 1) C hinX7 f7 (fun _ h => h) (by decide) rfl dX7_hashesLine_5 8 rfl rfl rfl rfl ?_
      refine q_bipush (v := nI 12) C dX7_hashesLine_8 10 rfl (by decide) ?_
      refine q_iald (k := 1) (j := 0) (v := nI ln.length) C dX7_hashesLine_10 11 rfl rfl rfl hcI 12 rfl (by omega) (by decide) (hm1.2.2.1) ?_
      refine q_imul (v := nI (4 * ln.length)) C dX7_hashesLine_11 12 rfl (q_nmul (by omega)) ?_
      refine q_icmp_ge C dX7_hashesLine_12 15 36 rfl (by decide) (nI_leI (by omega) (by omega)) (fun h12 => ?_) (fun h12 => ?_)
      · refine q_iconst (v := nI 0) C dX7_hashesLine_36 37 rfl (by decide) ?_
        refine q_istore_n C dX7_hashesLine_37 38 rfl [(1, .int (nI 0)), (0, .ref h0)] (by decide) rfl ?_
        have lp2 : ∀ (kk : Nat) (j : Nat) (wp : va_W), (ln.length + k_er ln) - j < kk → ∀ (hij : j ≤ (ln.length + k_er ln)), ∀ (hwp : k_isP cI h0 aS aZ aV aN aU aD fd (k_hf (fun q => k_ch ln q) (k_hp bx ln sc hh (4 * ln.length)) j) wp), q_V p9 l e9 R s9 m9 args below meth c9 D A 2 Q 0 0 38 [(1, .int (nI j)), (0, .ref h0)] [] [wp, [(aS, .inl (cI, 350, .inl f1))]] := by
          intro kk
          induction kk with
          | zero => intro j wp hkk; exact absurd hkk (Nat.not_lt_zero _)
          | succ kk ih_lp2 =>
            intro j wp hkk hij hwp
            refine q_iload_n C dX7_hashesLine_38 39 0 rfl rfl ?_
            refine q_aload_n C dX7_hashesLine_39 40 1 rfl rfl ?_
            obtain rfl := hwp
            have hPo3 : k_isP cI h0 aS aZ aV aN aU aD fd ((k_hf (fun q => k_ch ln q) (k_hp bx ln sc hh (4 * ln.length)) j)) [(h0, .inr (6, [.int (fd 0), .ref aS, .ref aZ, .ref aV, .int (fd 4), .ref aN, .int (fd 6), .ref aU, .int (fd 8), .int (fd 9), .int (fd 10), .ref aD, .int (fd 12), .int (fd 13), .int (fd 14), .long ((k_hf (fun q => k_ch ln q) (k_hp bx ln sc hh (4 * ln.length)) j))]))] := rfl
            refine q_get (k := 0) (j := 0) (f := 1) C hinX7 f7 (fun _ h => h) (by decide) rfl dX7_hashesLine_40 43 rfl rfl rfl rfl ?_
            refine q_bipush (v := nI 12) C dX7_hashesLine_43 45 rfl (by decide) ?_
            refine q_iald (k := 1) (j := 0) (v := nI ln.length) C dX7_hashesLine_45 46 rfl rfl rfl hcI 12 rfl (by omega) (by decide) (hm1.2.2.1) ?_
            refine q_aload_n C dX7_hashesLine_46 47 1 rfl rfl ?_
            refine q_callV (k := 0) (ci := 6) (n := 0) (rest := [.int (nI ln.length), .int (nI j)]) (Rr := []) C rfl (k_isP_recv hPo3) rfl (c_X7_errors l hZ hI h0 aS aZ aV aN aU aD fd ((k_hf (fun q => k_ch ln q) (k_hp bx ln sc hh (4 * ln.length)) j)) ([(h0, .inr (6, [.int (fd 0), .ref aS, .ref aZ, .ref aV, .int (fd 4), .ref aN, .int (fd 6), .ref aU, .int (fd 8), .int (fd 9), .int (fd 10), .ref aD, .int (fd 12), .int (fd 13), .int (fd 14), .long ((k_hf (fun q => k_ch ln q) (k_hp bx ln sc hh (4 * ln.length)) j))]))]) hPo3 bx at0 ln sc ([(aS, .inl (cI, 350, .inl f1))]) hQo1) gX7_hashesLine_X7_errors rfl rfl rfl (by decide +kernel) B.1 ⟨Nat.le_of_ble_eq_true rfl, Nat.le_of_ble_eq_true rfl⟩ rfl rfl (Nat.le_of_ble_eq_true rfl) dX7_hashesLine_47 ⟨Nat.le_of_ble_eq_true rfl, Nat.le_of_ble_eq_true rfl⟩ [0, 1] [] (by decide : ([0, 1] ++ ([] : List Nat)).Perm (List.range 2)) rfl rfl 50 rfl (fun v0 R0 t0 ht0 hp0 => ?_)
            obtain ⟨rfl, rfl⟩ := hp0
            refine q_eqs (st' := [.int (nI (k_er ln)), .int (nI ln.length), .int (nI j)]) rfl ?_
            refine q_eqR (Rs' := [[(h0, .inr (6, [.int (fd 0), .ref aS, .ref aZ, .ref aV, .int (fd 4), .ref aN, .int (fd 6), .ref aU, .int (fd 8), .int (fd 9), .int (fd 10), .ref aD, .int (fd 12), .int (fd 13), .int (fd 14), .long ((k_hf (fun q => k_ch ln q) (k_hp bx ln sc hh (4 * ln.length)) j))]))], [(aS, .inl (cI, 350, .inl f1))]]) rfl ?_
            have hc47 : k_er ln ≤ (ln).length := k_er_le _
            refine q_iadd (v := nI (ln.length + k_er ln)) C dX7_hashesLine_50 51 rfl (q_nadd (by omega)) ?_
            refine q_icmp_ge C dX7_hashesLine_51 54 70 rfl (by decide) (nI_leI (by omega) (by omega)) (fun h51 => ?_) (fun h51 => ?_)
            · exact q_vret C B dX7_hashesLine_70 rfl rfl (fun t0 ht0 => ⟨rfl, _, by unfold k_hl; rw [← show j = ln.length + k_er ln by omega]; exact hPo3, rfl⟩)
            · refine q_aload_n C dX7_hashesLine_54 55 1 rfl rfl ?_
              refine q_aload_n C dX7_hashesLine_55 56 1 rfl rfl ?_
              refine q_iload_n C dX7_hashesLine_56 57 0 rfl rfl ?_
              refine q_callV (k := 0) (ci := 6) (n := 1) (rest := [.ref h0]) (Rr := []) C rfl (k_isP_recv hPo3) rfl (c_X7_character l hZ hI h0 aS aZ aV aN aU aD fd ((k_hf (fun q => k_ch ln q) (k_hp bx ln sc hh (4 * ln.length)) j)) ([(h0, .inr (6, [.int (fd 0), .ref aS, .ref aZ, .ref aV, .int (fd 4), .ref aN, .int (fd 6), .ref aU, .int (fd 8), .int (fd 9), .int (fd 10), .ref aD, .int (fd 12), .int (fd 13), .int (fd 14), .long ((k_hf (fun q => k_ch ln q) (k_hp bx ln sc hh (4 * ln.length)) j))]))]) hPo3 bx at0 ln sc ([(aS, .inl (cI, 350, .inl f1))]) hQo1 j (by omega)) gX7_hashesLine_X7_character rfl rfl rfl (by decide +kernel) B.1 ⟨Nat.le_of_ble_eq_true rfl, Nat.le_of_ble_eq_true rfl⟩ rfl rfl (Nat.le_of_ble_eq_true rfl) dX7_hashesLine_57 ⟨Nat.le_of_ble_eq_true rfl, Nat.le_of_ble_eq_true rfl⟩ [0, 1] [] (by decide : ([0, 1] ++ ([] : List Nat)).Perm (List.range 2)) rfl rfl 60 rfl (fun v0 R0 t0 ht0 hp0 => ?_)
              obtain ⟨rfl, rfl⟩ := hp0
              refine q_eqs (st' := [.int (k_ch ln j), .ref h0]) rfl ?_
              refine q_eqR (Rs' := [[(h0, .inr (6, [.int (fd 0), .ref aS, .ref aZ, .ref aV, .int (fd 4), .ref aN, .int (fd 6), .ref aU, .int (fd 8), .int (fd 9), .int (fd 10), .ref aD, .int (fd 12), .int (fd 13), .int (fd 14), .long ((k_hf (fun q => k_ch ln q) (k_hp bx ln sc hh (4 * ln.length)) j))]))], [(aS, .inl (cI, 350, .inl f1))]]) rfl ?_
              refine q_i2l (v := ((k_ch ln j) : Int32).toInt64) C dX7_hashesLine_60 61 rfl rfl ?_
              refine q_callV (k := 0) (ci := 6) (n := 1) (rest := []) (Rr := [[(aS, .inl (cI, 350, .inl f1))]]) C rfl (k_isP_recv hPo3) rfl (c_X7_hashes l hZ hI h0 aS aZ aV aN aU aD fd ((k_hf (fun q => k_ch ln q) (k_hp bx ln sc hh (4 * ln.length)) j)) ([(h0, .inr (6, [.int (fd 0), .ref aS, .ref aZ, .ref aV, .int (fd 4), .ref aN, .int (fd 6), .ref aU, .int (fd 8), .int (fd 9), .int (fd 10), .ref aD, .int (fd 12), .int (fd 13), .int (fd 14), .long ((k_hf (fun q => k_ch ln q) (k_hp bx ln sc hh (4 * ln.length)) j))]))]) hPo3 (((k_ch ln j) : Int32).toInt64)) gX7_hashesLine_X7_hashes rfl rfl rfl (by decide +kernel) B.1 ⟨Nat.le_of_ble_eq_true rfl, Nat.le_of_ble_eq_true rfl⟩ rfl rfl (Nat.le_of_ble_eq_true rfl) dX7_hashesLine_61 ⟨Nat.le_of_ble_eq_true rfl, Nat.le_of_ble_eq_true rfl⟩ [0] [1] (by decide : ([0] ++ ([1] : List Nat)).Perm (List.range 2)) rfl rfl 64 rfl (fun v0 R0 t0 ht0 hp0 => ?_)
              obtain ⟨rfl, w_61, hw_61, rfl⟩ := hp0
              refine q_eqs (st' := []) rfl ?_
              refine q_eqR (Rs' := [w_61, [(aS, .inl (cI, 350, .inl f1))]]) rfl ?_
              refine q_iinc (v := nI (j + 1)) C dX7_hashesLine_64 67 0 rfl rfl (q_ninc1 (by omega)) [(1, .int (nI (j + 1))), (0, .ref h0)] (by decide) rfl ?_
              refine q_goto C dX7_hashesLine_67 38 (by decide) ?_
              refine q_sub (L' := [(1, .int (nI (j + 1))), (0, .ref h0)]) [0, 1] rfl ?_
              exact ih_lp2 (j + 1) w_61 (by omega) (by omega) hw_61
        refine q_sub (L' := [(1, .int (nI 0)), (0, .ref h0)]) [0, 1] rfl ?_
        exact lp2 _ 0 ([(h0, .inr (6, [.int (fd 0), .ref aS, .ref aZ, .ref aV, .int (fd 4), .ref aN, .int (fd 6), .ref aU, .int (fd 8), .int (fd 9), .int (fd 10), .ref aD, .int (fd 12), .int (fd 13), .int (fd 14), .long ((k_hp bx ln sc hh i))]))]) (Nat.lt_succ_self _) (by omega) (by rw [k_hf_0, ← show i = 4 * ln.length by omega]; exact hPo2)
      · refine q_aload_n C dX7_hashesLine_15 16 1 rfl rfl ?_
        refine q_aload_n C dX7_hashesLine_16 17 1 rfl rfl ?_
        refine q_iload_n C dX7_hashesLine_17 18 0 rfl rfl ?_
        refine q_iconst (v := nI 4) C dX7_hashesLine_18 19 rfl (by decide) ?_
        refine q_idiv (v := nI ((i / 4))) C dX7_hashesLine_19 20 rfl (q_nz (by omega) (by omega)) (pk_div (by omega) (by omega) (by omega)) ?_
        refine q_iload_n C dX7_hashesLine_20 21 0 rfl rfl ?_
        refine q_iconst (v := nI 4) C dX7_hashesLine_21 22 rfl (by decide) ?_
        refine q_irem (v := nI ((i % 4))) C dX7_hashesLine_22 23 rfl (q_nz (by omega) (by omega)) (pk_rem (by omega) (by omega) (by omega)) ?_
        refine q_callV (k := 0) (ci := 6) (n := 2) (rest := [.ref h0]) (Rr := []) C rfl (k_isP_recv hPo2) rfl (c_X7_tellsPlace l hZ hI h0 aS aZ aV aN aU aD fd ((k_hp bx ln sc hh i)) ([(h0, .inr (6, [.int (fd 0), .ref aS, .ref aZ, .ref aV, .int (fd 4), .ref aN, .int (fd 6), .ref aU, .int (fd 8), .int (fd 9), .int (fd 10), .ref aD, .int (fd 12), .int (fd 13), .int (fd 14), .long ((k_hp bx ln sc hh i))]))]) hPo2 bx at0 ln sc ([(aS, .inl (cI, 350, .inl f1))]) hQo1 ((i / 4)) ((i % 4)) (by omega) (by omega)) gX7_hashesLine_X7_tellsPlace rfl rfl rfl (by decide +kernel) B.1 ⟨Nat.le_of_ble_eq_true rfl, Nat.le_of_ble_eq_true rfl⟩ rfl rfl (Nat.le_of_ble_eq_true rfl) dX7_hashesLine_23 ⟨Nat.le_of_ble_eq_true rfl, Nat.le_of_ble_eq_true rfl⟩ [0, 1] [] (by decide : ([0, 1] ++ ([] : List Nat)).Perm (List.range 2)) rfl rfl 26 rfl (fun v0 R0 t0 ht0 hp0 => ?_)
        obtain ⟨rfl, rfl⟩ := hp0
        refine q_eqs (st' := [.int (k_tp bx ln sc ((i / 4)) ((i % 4))), .ref h0]) rfl ?_
        refine q_eqR (Rs' := [[(h0, .inr (6, [.int (fd 0), .ref aS, .ref aZ, .ref aV, .int (fd 4), .ref aN, .int (fd 6), .ref aU, .int (fd 8), .int (fd 9), .int (fd 10), .ref aD, .int (fd 12), .int (fd 13), .int (fd 14), .long ((k_hp bx ln sc hh i))]))], [(aS, .inl (cI, 350, .inl f1))]]) rfl ?_
        refine q_i2l (v := ((k_tp bx ln sc ((i / 4)) ((i % 4))) : Int32).toInt64) C dX7_hashesLine_26 27 rfl rfl ?_
        refine q_callV (k := 0) (ci := 6) (n := 1) (rest := []) (Rr := [[(aS, .inl (cI, 350, .inl f1))]]) C rfl (k_isP_recv hPo2) rfl (c_X7_hashes l hZ hI h0 aS aZ aV aN aU aD fd ((k_hp bx ln sc hh i)) ([(h0, .inr (6, [.int (fd 0), .ref aS, .ref aZ, .ref aV, .int (fd 4), .ref aN, .int (fd 6), .ref aU, .int (fd 8), .int (fd 9), .int (fd 10), .ref aD, .int (fd 12), .int (fd 13), .int (fd 14), .long ((k_hp bx ln sc hh i))]))]) hPo2 (((k_tp bx ln sc ((i / 4)) ((i % 4))) : Int32).toInt64)) gX7_hashesLine_X7_hashes rfl rfl rfl (by decide +kernel) B.1 ⟨Nat.le_of_ble_eq_true rfl, Nat.le_of_ble_eq_true rfl⟩ rfl rfl (Nat.le_of_ble_eq_true rfl) dX7_hashesLine_27 ⟨Nat.le_of_ble_eq_true rfl, Nat.le_of_ble_eq_true rfl⟩ [0] [1] (by decide : ([0] ++ ([1] : List Nat)).Perm (List.range 2)) rfl rfl 30 rfl (fun v0 R0 t0 ht0 hp0 => ?_)
        obtain ⟨rfl, w_27, hw_27, rfl⟩ := hp0
        refine q_eqs (st' := []) rfl ?_
        refine q_eqR (Rs' := [w_27, [(aS, .inl (cI, 350, .inl f1))]]) rfl ?_
        refine q_iinc (v := nI (i + 1)) C dX7_hashesLine_30 33 0 rfl rfl (q_ninc1 (by omega)) [(1, .int (nI (i + 1))), (0, .ref h0)] (by decide) rfl ?_
        refine q_goto C dX7_hashesLine_33 2 (by decide) ?_
        refine q_sub (L' := [(1, .int (nI (i + 1))), (0, .ref h0)]) [0, 1] rfl ?_
        exact ih_lp (i + 1) w_27 (by omega) (by omega) hw_27
  refine q_sub (L' := [(1, .int (nI 0)), (0, .ref h0)]) [0, 1] rfl ?_
  exact lp _ 0 wP (Nat.lt_succ_self _) (by omega) hP
