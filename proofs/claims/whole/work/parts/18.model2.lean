set_option maxHeartbeats 400000 in
set_option maxRecDepth 100000 in
theorem c_X7_takesUpmost (l : Launch) {D : va_G} {tys : List (ClassId × FieldType)} {Z : (Nat → Prop) → State → Heap → Prop} (hZ : q_St Z) {cI : ClassId} (hI : tys[0]? = some (cI, .int)) (h0 : Nat) (aS : Nat) (aZ : Nat) (aV : Nat) (aN : Nat) (aU : Nat) (aD : Nat) (fd : Nat → Int32) (hh : Int64) (wP : va_W) (hP : k_isP cI h0 aS aZ aV aN aU aD fd hh wP) (bx : k_Bx) (at0 : Nat) (ln : List (Nat × Nat)) (sc : Nat → Int32) (wQ : va_W) (hQ : k_isQ cI aS bx at0 ln sc wQ) (b : Nat) (hb : b < 12) (he : 0 < (bx b).length) : q_Ct l D tys Z yX7_takesUpmost wsX7_takesUpmost ({ frames := 3, cells := 0, slots := 0, locals := 102 } : Room) 0 0 [.ref h0, .int (nI b)] [wP, wQ] (fun v0 R0 _ => v0 = some (.int (nI (k_x bx b))) ∧ ∃ wQ', k_isQ cI aS (k_drop bx b) at0 ln sc wQ' ∧ R0 = [wP, wQ']) := by
  have hcI := hI
  refine q_ct (cc := cX7_takesUpmost) (maxL := 2) (ret := (some .int)) (own := RX7) (by decide) rfl hZ (Nat.le_of_ble_eq_true rfl) rfl ?_
  intro p9 e9 R s9 m9 args below meth c9 A Q C B
  have hts := C.2.2.2.2.1
  refine q_eqL (L' := [(0, .ref h0), (1, .int (nI b))]) rfl ?_
  refine q_aload_n C dX7_takesUpmost_0 1 0 rfl rfl ?_
  refine q_iload_n C dX7_takesUpmost_1 2 1 rfl rfl ?_
  refine q_aload_n C dX7_takesUpmost_2 3 0 rfl rfl ?_
  refine q_iload_n C dX7_takesUpmost_3 4 1 rfl rfl ?_
  refine q_callV (k := 0) (ci := 6) (n := 1) (rest := [.int (nI b), .ref h0]) (Rr := []) C rfl (k_isP_recv hP) rfl (c_X7_many_q l hZ hI h0 aS aZ aV aN aU aD fd hh wP hP bx at0 ln sc wQ hQ b (by omega)) gX7_takesUpmost_X7_many rfl rfl rfl (by decide +kernel) B.1 ⟨Nat.le_of_ble_eq_true rfl, Nat.le_of_ble_eq_true rfl⟩ rfl rfl (Nat.le_of_ble_eq_true rfl) dX7_takesUpmost_4 ⟨Nat.le_of_ble_eq_true rfl, Nat.le_of_ble_eq_true rfl⟩ [0, 1] [] (by decide : ([0, 1] ++ ([] : List Nat)).Perm (List.range 2)) rfl rfl 7 rfl (fun v0 R0 t0 ht0 hp0 => ?_)
  obtain ⟨rfl, rfl⟩ := hp0
  refine q_eqs (st' := [.int (nI ((bx b).length)), .int (nI b), .ref h0]) rfl ?_
  refine q_eqR (Rs' := [wP, wQ]) rfl ?_
  have hh4 : (bx b).length ≤ 20 := (hQ.2.1 b (by omega)).1
  refine q_iconst (v := nI 1) C dX7_takesUpmost_7 8 rfl (by decide) ?_
  refine q_isub (v := nI ((bx b).length - 1)) C dX7_takesUpmost_8 9 rfl (q_nsub (by omega) (by omega)) ?_
  refine q_callV (k := 0) (ci := 6) (n := 2) (rest := []) (Rr := []) C rfl (k_isP_recv hP) rfl (c_X7_takes l hZ hI h0 aS aZ aV aN aU aD fd hh wP hP bx at0 ln sc wQ hQ b ((bx b).length - 1) (by omega) (by omega)) gX7_takesUpmost_X7_takes rfl rfl rfl (by decide +kernel) B.1 ⟨Nat.le_of_ble_eq_true rfl, Nat.le_of_ble_eq_true rfl⟩ rfl rfl (Nat.le_of_ble_eq_true rfl) dX7_takesUpmost_9 ⟨Nat.le_of_ble_eq_true rfl, Nat.le_of_ble_eq_true rfl⟩ [0, 1] [] (by decide : ([0, 1] ++ ([] : List Nat)).Perm (List.range 2)) rfl rfl 12 rfl (fun v0 R0 t0 ht0 hp0 => ?_)
  obtain ⟨rfl, wQ_9, hwQ_9, rfl⟩ := hp0
  refine q_eqs (st' := [.int (nI (k_at (bx b) ((bx b).length - 1)))]) rfl ?_
  refine q_eqR (Rs' := [wP, wQ_9]) rfl ?_
  exact q_iret C B dX7_takesUpmost_12 rfl rfl (fun t0 ht0 => ⟨rfl, _, by rw [← k_cut_top he]; exact hwQ_9, rfl⟩)

set_option maxHeartbeats 400000 in
set_option maxRecDepth 100000 in
theorem c_X7_putAside (l : Launch) {D : va_G} {tys : List (ClassId × FieldType)} {Z : (Nat → Prop) → State → Heap → Prop} (hZ : q_St Z) {cI : ClassId} (hI : tys[0]? = some (cI, .int)) (h0 : Nat) (aS : Nat) (aZ : Nat) (aV : Nat) (aN : Nat) (aU : Nat) (aD : Nat) (fd : Nat → Int32) (hh : Int64) (wP : va_W) (hP : k_isP cI h0 aS aZ aV aN aU aD fd hh wP) (bx : k_Bx) (at0 : Nat) (ln : List (Nat × Nat)) (sc : Nat → Int32) (wQ : va_W) (hQ : k_isQ cI aS bx at0 ln sc wQ) (zbx : k_Bx) (zat0 : Nat) (zln : List (Nat × Nat)) (zsc : Nat → Int32) (zw : va_W) (zh : k_isQ cI aZ zbx zat0 zln zsc zw) : q_Ct l D tys Z yX7_putAside wsX7_putAside ({ frames := 1, cells := 0, slots := 0, locals := 42 } : Room) 0 0 [.ref h0] [wP, wQ, zw] (fun v0 R0 _ => v0 = none ∧ ∃ zw', k_isQ cI aZ bx at0 ln sc zw' ∧ R0 = [wP, wQ, zw']) := by
  have hcI := hI
  refine q_ct (cc := cX7_putAside) (maxL := 2) (ret := none) (own := RX7) (by decide) rfl hZ (Nat.le_of_ble_eq_true rfl) rfl ?_
  intro p9 e9 R s9 m9 args below meth c9 A Q C B
  have hts := C.2.2.2.2.1
  have hinX7 : ∀ w ∈ u_ws RX7 TX7 16, w ∈ wsX7_putAside := by decide +kernel
  have f13 := hts (.fieldLink RX7 13 "SortCasesModel" "aside" "[I") (by decide +kernel)
  have f7 := hts (.fieldLink RX7 7 "SortCasesModel" "s" "[I") (by decide +kernel)
  refine q_eqL (L' := [(0, .ref h0)]) rfl ?_
  obtain ⟨hat1, hok1, hlok1, f1, hm1, rfl⟩ := hQ
  have hll1 := hlok1.1
  have hQo1 : k_isQ cI aS bx at0 ln sc [(aS, .inl (cI, 350, .inl f1))] := ⟨hat1, hok1, hlok1, f1, hm1, rfl⟩
  obtain ⟨hat2, hok2, hlok2, f2, hm2, rfl⟩ := zh
  have hll2 := hlok2.1
  have hQo2 : k_isQ cI aZ zbx zat0 zln zsc [(aZ, .inl (cI, 350, .inl f2))] := ⟨hat2, hok2, hlok2, f2, hm2, rfl⟩
  have hRr1 : k_isR cI aZ f2 [(aZ, .inl (cI, 350, .inl f2))] := rfl
  refine q_iconst (v := nI 0) C dX7_putAside_0 1 rfl (by decide) ?_
  refine q_istore_n C dX7_putAside_1 2 rfl [(1, .int (nI 0)), (0, .ref h0)] (by decide) rfl ?_
  have lp : ∀ (kk : Nat) (i : Nat) (g : Nat → Int32), 350 - i < kk → ∀ (hi : i ≤ 350), ∀ (hg : ∀ q, q < i → g q = f1 q), q_V p9 l e9 R s9 m9 args below meth c9 D A 2 Q 0 0 2 [(1, .int (nI i)), (0, .ref h0)] [] [wP, [(aS, .inl (cI, 350, .inl f1))], [(aZ, .inl (cI, 350, .inl g))]] := by
    intro kk
    induction kk with
    | zero => intro i g hkk; exact absurd hkk (Nat.not_lt_zero _)
    | succ kk ih_lp =>
      intro i g hkk hi hg
      refine q_iload_n C dX7_putAside_2 3 0 rfl rfl ?_
      refine q_sipush (v := nI 350) C dX7_putAside_3 6 rfl (by decide) ?_
      refine q_icmp_ge C dX7_putAside_6 9 27 rfl (by decide) (nI_leI (by omega) (by omega)) (fun h6 => ?_) (fun h6 => ?_)
      · exact q_vret C B dX7_putAside_27 rfl rfl (fun t0 ht0 => ⟨rfl, _, ⟨hat1, hok1, hlok1, _, k_MR_cong hok1 hlok1 hm1 (fun q hq => hg q (by omega)), rfl⟩, rfl⟩)
      · refine q_aload_n C dX7_putAside_9 10 1 rfl rfl ?_
        obtain rfl := hP
        have hPo3 : k_isP cI h0 aS aZ aV aN aU aD fd hh [(h0, .inr (6, [.int (fd 0), .ref aS, .ref aZ, .ref aV, .int (fd 4), .ref aN, .int (fd 6), .ref aU, .int (fd 8), .int (fd 9), .int (fd 10), .ref aD, .int (fd 12), .int (fd 13), .int (fd 14), .long hh]))] := rfl
        refine q_get (k := 0) (j := 0) (f := 2) C hinX7 f13 (fun _ h => h) (by decide) rfl dX7_putAside_10 13 rfl rfl rfl rfl ?_
        refine q_iload_n C dX7_putAside_13 14 0 rfl rfl ?_
        refine q_aload_n C dX7_putAside_14 15 1 rfl rfl ?_
        refine q_get (k := 0) (j := 0) (f := 1) C hinX7 f7 (fun _ h => h) (by decide) rfl dX7_putAside_15 18 rfl rfl rfl rfl ?_
        refine q_iload_n C dX7_putAside_18 19 0 rfl rfl ?_
        refine q_iald (k := 1) (j := 0) (v := f1 i) C dX7_putAside_19 20 rfl rfl rfl hcI i rfl (by omega) (by decide) rfl ?_
        refine q_iast (k := 2) (j := 0) C dX7_putAside_20 21 rfl rfl rfl hcI i rfl (by omega) (by decide) [[(h0, .inr (6, [.int (fd 0), .ref aS, .ref aZ, .ref aV, .int (fd 4), .ref aN, .int (fd 6), .ref aU, .int (fd 8), .int (fd 9), .int (fd 10), .ref aD, .int (fd 12), .int (fd 13), .int (fd 14), .long hh]))], [(aS, .inl (cI, 350, .inl f1))], [(aZ, .inl (cI, 350, .inl (upd g i (f1 i))))]] rfl ?_
        have hRs4 : k_isR cI aZ (upd g i (f1 i)) [(aZ, .inl (cI, 350, .inl (upd g i (f1 i))))] := rfl
        refine q_iinc (v := nI (i + 1)) C dX7_putAside_21 24 0 rfl rfl (q_ninc1 (by omega)) [(1, .int (nI (i + 1))), (0, .ref h0)] (by decide) rfl ?_
        refine q_goto C dX7_putAside_24 2 (by decide) ?_
        refine q_sub (L' := [(1, .int (nI (i + 1))), (0, .ref h0)]) [0, 1] rfl ?_
        exact ih_lp (i + 1) (upd g i (f1 i)) (by omega) (by omega) (fun q hq => (Decidable.em (q = i)).elim (fun e => by subst e; rw [pk_us]) (fun e => by rw [pk_un e]; exact hg q (by omega)))
  refine q_sub (L' := [(1, .int (nI 0)), (0, .ref h0)]) [0, 1] rfl ?_
  exact lp _ 0 f2 (Nat.lt_succ_self _) (by omega) (fun q hq => absurd hq (Nat.not_lt_zero q))

set_option maxHeartbeats 400000 in
set_option maxRecDepth 100000 in
theorem c_X7_takeBack (l : Launch) {D : va_G} {tys : List (ClassId × FieldType)} {Z : (Nat → Prop) → State → Heap → Prop} (hZ : q_St Z) {cI : ClassId} (hI : tys[0]? = some (cI, .int)) (h0 : Nat) (aS : Nat) (aZ : Nat) (aV : Nat) (aN : Nat) (aU : Nat) (aD : Nat) (fd : Nat → Int32) (hh : Int64) (wP : va_W) (hP : k_isP cI h0 aS aZ aV aN aU aD fd hh wP) (bx : k_Bx) (at0 : Nat) (ln : List (Nat × Nat)) (sc : Nat → Int32) (wQ : va_W) (hQ : k_isQ cI aS bx at0 ln sc wQ) (zbx : k_Bx) (zat0 : Nat) (zln : List (Nat × Nat)) (zsc : Nat → Int32) (zw : va_W) (zh : k_isQ cI aZ zbx zat0 zln zsc zw) : q_Ct l D tys Z yX7_takeBack wsX7_takeBack ({ frames := 1, cells := 0, slots := 0, locals := 42 } : Room) 0 0 [.ref h0] [wP, wQ, zw] (fun v0 R0 _ => v0 = none ∧ ∃ wQ', k_isQ cI aS zbx zat0 zln zsc wQ' ∧ R0 = [wP, wQ', zw]) := by
  have hcI := hI
  refine q_ct (cc := cX7_takeBack) (maxL := 2) (ret := none) (own := RX7) (by decide) rfl hZ (Nat.le_of_ble_eq_true rfl) rfl ?_
  intro p9 e9 R s9 m9 args below meth c9 A Q C B
  have hts := C.2.2.2.2.1
  have hinX7 : ∀ w ∈ u_ws RX7 TX7 16, w ∈ wsX7_takeBack := by decide +kernel
  have f7 := hts (.fieldLink RX7 7 "SortCasesModel" "s" "[I") (by decide +kernel)
  have f13 := hts (.fieldLink RX7 13 "SortCasesModel" "aside" "[I") (by decide +kernel)
  refine q_eqL (L' := [(0, .ref h0)]) rfl ?_
  obtain ⟨hat1, hok1, hlok1, f1, hm1, rfl⟩ := zh
  have hll1 := hlok1.1
  have hQo1 : k_isQ cI aZ zbx zat0 zln zsc [(aZ, .inl (cI, 350, .inl f1))] := ⟨hat1, hok1, hlok1, f1, hm1, rfl⟩
  obtain ⟨hat2, hok2, hlok2, f2, hm2, rfl⟩ := hQ
  have hll2 := hlok2.1
  have hQo2 : k_isQ cI aS bx at0 ln sc [(aS, .inl (cI, 350, .inl f2))] := ⟨hat2, hok2, hlok2, f2, hm2, rfl⟩
  have hRr1 : k_isR cI aS f2 [(aS, .inl (cI, 350, .inl f2))] := rfl
  refine q_iconst (v := nI 0) C dX7_takeBack_0 1 rfl (by decide) ?_
  refine q_istore_n C dX7_takeBack_1 2 rfl [(1, .int (nI 0)), (0, .ref h0)] (by decide) rfl ?_
  have lp : ∀ (kk : Nat) (i : Nat) (g : Nat → Int32), 350 - i < kk → ∀ (hi : i ≤ 350), ∀ (hg : ∀ q, q < i → g q = f1 q), q_V p9 l e9 R s9 m9 args below meth c9 D A 2 Q 0 0 2 [(1, .int (nI i)), (0, .ref h0)] [] [wP, [(aS, .inl (cI, 350, .inl g))], [(aZ, .inl (cI, 350, .inl f1))]] := by
    intro kk
    induction kk with
    | zero => intro i g hkk; exact absurd hkk (Nat.not_lt_zero _)
    | succ kk ih_lp =>
      intro i g hkk hi hg
      refine q_iload_n C dX7_takeBack_2 3 0 rfl rfl ?_
      refine q_sipush (v := nI 350) C dX7_takeBack_3 6 rfl (by decide) ?_
      refine q_icmp_ge C dX7_takeBack_6 9 27 rfl (by decide) (nI_leI (by omega) (by omega)) (fun h6 => ?_) (fun h6 => ?_)
      · exact q_vret C B dX7_takeBack_27 rfl rfl (fun t0 ht0 => ⟨rfl, _, ⟨hat1, hok1, hlok1, _, k_MR_cong hok1 hlok1 hm1 (fun q hq => hg q (by omega)), rfl⟩, rfl⟩)
      · refine q_aload_n C dX7_takeBack_9 10 1 rfl rfl ?_
        obtain rfl := hP
        have hPo3 : k_isP cI h0 aS aZ aV aN aU aD fd hh [(h0, .inr (6, [.int (fd 0), .ref aS, .ref aZ, .ref aV, .int (fd 4), .ref aN, .int (fd 6), .ref aU, .int (fd 8), .int (fd 9), .int (fd 10), .ref aD, .int (fd 12), .int (fd 13), .int (fd 14), .long hh]))] := rfl
        refine q_get (k := 0) (j := 0) (f := 1) C hinX7 f7 (fun _ h => h) (by decide) rfl dX7_takeBack_10 13 rfl rfl rfl rfl ?_
        refine q_iload_n C dX7_takeBack_13 14 0 rfl rfl ?_
        refine q_aload_n C dX7_takeBack_14 15 1 rfl rfl ?_
        refine q_get (k := 0) (j := 0) (f := 2) C hinX7 f13 (fun _ h => h) (by decide) rfl dX7_takeBack_15 18 rfl rfl rfl rfl ?_
        refine q_iload_n C dX7_takeBack_18 19 0 rfl rfl ?_
        refine q_iald (k := 2) (j := 0) (v := f1 i) C dX7_takeBack_19 20 rfl rfl rfl hcI i rfl (by omega) (by decide) rfl ?_
        refine q_iast (k := 1) (j := 0) C dX7_takeBack_20 21 rfl rfl rfl hcI i rfl (by omega) (by decide) [[(h0, .inr (6, [.int (fd 0), .ref aS, .ref aZ, .ref aV, .int (fd 4), .ref aN, .int (fd 6), .ref aU, .int (fd 8), .int (fd 9), .int (fd 10), .ref aD, .int (fd 12), .int (fd 13), .int (fd 14), .long hh]))], [(aS, .inl (cI, 350, .inl (upd g i (f1 i))))], [(aZ, .inl (cI, 350, .inl f1))]] rfl ?_
        have hRs4 : k_isR cI aS (upd g i (f1 i)) [(aS, .inl (cI, 350, .inl (upd g i (f1 i))))] := rfl
        refine q_iinc (v := nI (i + 1)) C dX7_takeBack_21 24 0 rfl rfl (q_ninc1 (by omega)) [(1, .int (nI (i + 1))), (0, .ref h0)] (by decide) rfl ?_
        refine q_goto C dX7_takeBack_24 2 (by decide) ?_
        refine q_sub (L' := [(1, .int (nI (i + 1))), (0, .ref h0)]) [0, 1] rfl ?_
        exact ih_lp (i + 1) (upd g i (f1 i)) (by omega) (by omega) (fun q hq => (Decidable.em (q = i)).elim (fun e => by subst e; rw [pk_us]) (fun e => by rw [pk_un e]; exact hg q (by omega)))
  refine q_sub (L' := [(1, .int (nI 0)), (0, .ref h0)]) [0, 1] rfl ?_
  exact lp _ 0 f2 (Nat.lt_succ_self _) (by omega) (fun q hq => absurd hq (Nat.not_lt_zero q))

set_option maxHeartbeats 400000 in
set_option maxRecDepth 100000 in
theorem c_X7_width (l : Launch) {D : va_G} {tys : List (ClassId × FieldType)} {Z : (Nat → Prop) → State → Heap → Prop} (hZ : q_St Z) {cI : ClassId} (hI : tys[0]? = some (cI, .int)) (h0 : Nat) (aS : Nat) (aZ : Nat) (aV : Nat) (aN : Nat) (aU : Nat) (aD : Nat) (fd : Nat → Int32) (hh : Int64) (wP : va_W) (hP : k_isP cI h0 aS aZ aV aN aU aD fd hh wP) (bx : k_Bx) (at0 : Nat) (ln : List (Nat × Nat)) (sc : Nat → Int32) (wQ : va_W) (hQ : k_isQ cI aS bx at0 ln sc wQ) : q_Ct l D tys Z yX7_width wsX7_width ({ frames := 2, cells := 0, slots := 0, locals := 72 } : Room) 0 0 [.ref h0] [wP, wQ] (fun v0 R0 _ => v0 = some (.int (nI (k_np ln - 1))) ∧ R0 = [wP, wQ]) := by
  have hcI := hI
  refine q_ct (cc := cX7_width) (maxL := 3) (ret := (some .int)) (own := RX7) (by decide) rfl hZ (Nat.le_of_ble_eq_true rfl) rfl ?_
  intro p9 e9 R s9 m9 args below meth c9 A Q C B
  have hts := C.2.2.2.2.1
  have hinX7 : ∀ w ∈ u_ws RX7 TX7 16, w ∈ wsX7_width := by decide +kernel
  have f7 := hts (.fieldLink RX7 7 "SortCasesModel" "s" "[I") (by decide +kernel)
  refine q_eqL (L' := [(0, .ref h0)]) rfl ?_
  have hnp := k_np_le ln
  have hns := k_np_split ln
  refine q_aload_n C dX7_width_0 1 0 rfl rfl ?_
  obtain rfl := hP
  have hPo1 : k_isP cI h0 aS aZ aV aN aU aD fd hh [(h0, .inr (6, [.int (fd 0), .ref aS, .ref aZ, .ref aV, .int (fd 4), .ref aN, .int (fd 6), .ref aU, .int (fd 8), .int (fd 9), .int (fd 10), .ref aD, .int (fd 12), .int (fd 13), .int (fd 14), .long hh]))] := rfl
  refine q_get (k := 0) (j := 0) (f := 1) C hinX7 f7 (fun _ h => h) (by decide) rfl dX7_width_1 4 rfl rfl rfl rfl ?_
  refine q_bipush (v := nI 12) C dX7_width_4 6 rfl (by decide) ?_
  obtain ⟨hat2, hok2, hlok2, f2, hm2, rfl⟩ := hQ
  have hll2 := hlok2.1
  have hQo2 : k_isQ cI aS bx at0 ln sc [(aS, .inl (cI, 350, .inl f2))] := ⟨hat2, hok2, hlok2, f2, hm2, rfl⟩
  refine q_iald (k := 1) (j := 0) (v := nI ln.length) C dX7_width_6 7 rfl rfl rfl hcI 12 rfl (by omega) (by decide) (hm2.2.2.1) ?_
  refine q_if_le C dX7_width_7 10 22 rfl (by decide) (q_le0 (by omega)) (fun h7 => ?_) (fun h7 => ?_)
  · refine q_iconst (v := nI 0) C dX7_width_22 23 rfl (by decide) ?_
    refine q_istore_n C dX7_width_23 24 rfl [(1, .int (nI 0)), (0, .ref h0)] (by decide) rfl ?_
    refine q_iconst (v := nI 0) C dX7_width_24 25 rfl (by decide) ?_
    refine q_istore_n C dX7_width_25 26 rfl [(2, .int (nI 0)), (1, .int (nI 0)), (0, .ref h0)] (by decide) rfl ?_
    have lp : ∀ (kk : Nat) (i : Nat) (n : Nat), ln.length - i < kk → ∀ (hi : i ≤ ln.length), ∀ (hn : n = k_sum (fun i => k_wd (k_la ln i).1) i + (ln.length - 1)), ∀ (hnb : n ≤ 4 * i + 40), q_V p9 l e9 R s9 m9 args below meth c9 D A 3 Q 0 0 26 [(2, .int (nI i)), (1, .int (nI n)), (0, .ref h0)] [] [[(h0, .inr (6, [.int (fd 0), .ref aS, .ref aZ, .ref aV, .int (fd 4), .ref aN, .int (fd 6), .ref aU, .int (fd 8), .int (fd 9), .int (fd 10), .ref aD, .int (fd 12), .int (fd 13), .int (fd 14), .long hh]))], [(aS, .inl (cI, 350, .inl f2))]] := by
      intro kk
      induction kk with
      | zero => intro i n hkk; exact absurd hkk (Nat.not_lt_zero _)
      | succ kk ih_lp =>
        intro i n hkk hi hn hnb
        refine q_iload_n C dX7_width_26 27 0 rfl rfl ?_
        refine q_aload_n C dX7_width_27 28 2 rfl rfl ?_
        refine q_get (k := 0) (j := 0) (f := 1) C hinX7 f7 (fun _ h => h) (by decide) rfl dX7_width_28 31 rfl rfl rfl rfl ?_
        refine q_bipush (v := nI 12) C dX7_width_31 33 rfl (by decide) ?_
        refine q_iald (k := 1) (j := 0) (v := nI ln.length) C dX7_width_33 34 rfl rfl rfl hcI 12 rfl (by omega) (by decide) (hm2.2.2.1) ?_
        refine q_icmp_ge C dX7_width_34 37 58 rfl (by decide) (nI_leI (by omega) (by omega)) (fun h34 => ?_) (fun h34 => False.elim (by first | omega | simp_all))
        refine q_iload_n C dX7_width_58 59 1 rfl rfl ?_
        exact q_iret C B dX7_width_59 rfl rfl (fun t0 ht0 => ⟨by rw [hn, show i = ln.length by omega, show k_sum (fun i => k_wd (k_la ln i).1) ln.length + (ln.length - 1) = k_np ln - 1 by omega], rfl⟩)
    refine q_sub (L' := [(2, .int (nI 0)), (1, .int (nI 0)), (0, .ref h0)]) [0, 1, 2] rfl ?_
    exact lp _ 0 0 (Nat.lt_succ_self _) (by omega) (by rw [k_sum_0]; omega) (by omega)
  · refine q_aload_n C dX7_width_10 11 0 rfl rfl ?_
    refine q_get (k := 0) (j := 0) (f := 1) C hinX7 f7 (fun _ h => h) (by decide) rfl dX7_width_11 14 rfl rfl rfl rfl ?_
    refine q_bipush (v := nI 12) C dX7_width_14 16 rfl (by decide) ?_
    refine q_iald (k := 1) (j := 0) (v := nI ln.length) C dX7_width_16 17 rfl rfl rfl hcI 12 rfl (by omega) (by decide) (hm2.2.2.1) ?_
    refine q_iconst (v := nI 1) C dX7_width_17 18 rfl (by decide) ?_
    refine q_isub (v := nI (ln.length - 1)) C dX7_width_18 19 rfl (q_nsub (by omega) (by omega)) ?_
    refine q_goto C dX7_width_19 23 (by decide) ?_
    refine q_istore_n C dX7_width_23 24 rfl [(1, .int (nI (ln.length - 1))), (0, .ref h0)] (by decide) rfl ?_
    refine q_iconst (v := nI 0) C dX7_width_24 25 rfl (by decide) ?_
    refine q_istore_n C dX7_width_25 26 rfl [(2, .int (nI 0)), (1, .int (nI (ln.length - 1))), (0, .ref h0)] (by decide) rfl ?_
    have lp : ∀ (kk : Nat) (i : Nat) (n : Nat), ln.length - i < kk → ∀ (hi : i ≤ ln.length), ∀ (hn : n = k_sum (fun i => k_wd (k_la ln i).1) i + (ln.length - 1)), ∀ (hnb : n ≤ 4 * i + 40), q_V p9 l e9 R s9 m9 args below meth c9 D A 3 Q 0 0 26 [(2, .int (nI i)), (1, .int (nI n)), (0, .ref h0)] [] [[(h0, .inr (6, [.int (fd 0), .ref aS, .ref aZ, .ref aV, .int (fd 4), .ref aN, .int (fd 6), .ref aU, .int (fd 8), .int (fd 9), .int (fd 10), .ref aD, .int (fd 12), .int (fd 13), .int (fd 14), .long hh]))], [(aS, .inl (cI, 350, .inl f2))]] := by
      intro kk
      induction kk with
      | zero => intro i n hkk; exact absurd hkk (Nat.not_lt_zero _)
      | succ kk ih_lp =>
        intro i n hkk hi hn hnb
        refine q_iload_n C dX7_width_26 27 0 rfl rfl ?_
        refine q_aload_n C dX7_width_27 28 2 rfl rfl ?_
        refine q_get (k := 0) (j := 0) (f := 1) C hinX7 f7 (fun _ h => h) (by decide) rfl dX7_width_28 31 rfl rfl rfl rfl ?_
        refine q_bipush (v := nI 12) C dX7_width_31 33 rfl (by decide) ?_
        refine q_iald (k := 1) (j := 0) (v := nI ln.length) C dX7_width_33 34 rfl rfl rfl hcI 12 rfl (by omega) (by decide) (hm2.2.2.1) ?_
        refine q_icmp_ge C dX7_width_34 37 58 rfl (by decide) (nI_leI (by omega) (by omega)) (fun h34 => ?_) (fun h34 => ?_)
        · refine q_iload_n C dX7_width_58 59 1 rfl rfl ?_
          exact q_iret C B dX7_width_59 rfl rfl (fun t0 ht0 => ⟨by rw [hn, show i = ln.length by omega, show k_sum (fun i => k_wd (k_la ln i).1) ln.length + (ln.length - 1) = k_np ln - 1 by omega], rfl⟩)
        · refine q_iload_n C dX7_width_37 38 1 rfl rfl ?_
          refine q_aload_n C dX7_width_38 39 2 rfl rfl ?_
          refine q_get (k := 0) (j := 0) (f := 1) C hinX7 f7 (fun _ h => h) (by decide) rfl dX7_width_39 42 rfl rfl rfl rfl ?_
          refine q_bipush (v := nI 13) C dX7_width_42 44 rfl (by decide) ?_
          refine q_iload_n C dX7_width_44 45 0 rfl rfl ?_
          refine q_iadd (v := nI (i + 13)) C dX7_width_45 46 rfl (q_nadd (by omega)) ?_
          refine q_iald (k := 1) (j := 0) (v := nI ((k_la ln i).1)) C dX7_width_46 47 rfl rfl rfl hcI (i + 13) rfl (by omega) (by decide) ((hm2.2.2.2.1 i (by omega)).1) ?_
          have hla46_1 : (k_la ln i).1 < 12 := (k_la_lt hlok2 (by omega)).1
          refine q_callS (n := 1) (rest := [.int (nI n)]) (Rr := [[(h0, .inr (6, [.int (fd 0), .ref aS, .ref aZ, .ref aV, .int (fd 4), .ref aN, .int (fd 6), .ref aU, .int (fd 8), .int (fd 9), .int (fd 10), .ref aD, .int (fd 12), .int (fd 13), .int (fd 14), .long hh]))], [(aS, .inl (cI, 350, .inl f2))]]) C (c_X7_widthOf l hZ hI ((k_la ln i).1) (by omega)) gX7_width_X7_widthOf rfl rfl rfl (by decide +kernel) B.1 ⟨Nat.le_of_ble_eq_true rfl, Nat.le_of_ble_eq_true rfl⟩ rfl rfl (Nat.le_of_ble_eq_true rfl) dX7_width_47 ⟨Nat.le_of_ble_eq_true rfl, Nat.le_of_ble_eq_true rfl⟩ [] [0, 1] (by decide : ([] ++ ([0, 1] : List Nat)).Perm (List.range 2)) rfl rfl 50 rfl (fun v0 R0 t0 ht0 hp0 => ?_)
          obtain ⟨rfl, rfl⟩ := hp0
          refine q_eqs (st' := [.int (nI (k_wd ((k_la ln i).1))), .int (nI n)]) rfl ?_
          refine q_eqR (Rs' := [[(h0, .inr (6, [.int (fd 0), .ref aS, .ref aZ, .ref aV, .int (fd 4), .ref aN, .int (fd 6), .ref aU, .int (fd 8), .int (fd 9), .int (fd 10), .ref aD, .int (fd 12), .int (fd 13), .int (fd 14), .long hh]))], [(aS, .inl (cI, 350, .inl f2))]]) rfl ?_
          have hw47 : k_wd ((k_la ln i).1) ≤ 4 := (k_wd_le _).2
          refine q_iadd (v := nI (n + k_wd ((k_la ln i).1))) C dX7_width_50 51 rfl (q_nadd (by omega)) ?_
          refine q_istore_n C dX7_width_51 52 rfl [(1, .int (nI (n + k_wd ((k_la ln i).1)))), (2, .int (nI i)), (0, .ref h0)] (by decide) rfl ?_
          refine q_iinc (v := nI (i + 1)) C dX7_width_52 55 1 rfl rfl (q_ninc1 (by omega)) [(2, .int (nI (i + 1))), (1, .int (nI (n + k_wd ((k_la ln i).1)))), (0, .ref h0)] (by decide) rfl ?_
          refine q_goto C dX7_width_55 26 (by decide) ?_
          refine q_sub (L' := [(2, .int (nI (i + 1))), (1, .int (nI (n + k_wd ((k_la ln i).1)))), (0, .ref h0)]) [0, 1, 2] rfl ?_
          exact ih_lp (i + 1) (n + k_wd ((k_la ln i).1)) (by omega) (by omega) (by rw [k_sum_s]; omega) (by omega)
    refine q_sub (L' := [(2, .int (nI 0)), (1, .int (nI (ln.length - 1))), (0, .ref h0)]) [0, 1, 2] rfl ?_
    exact lp _ 0 (ln.length - 1) (Nat.lt_succ_self _) (by omega) (by rw [k_sum_0]; omega) (by omega)

set_option maxHeartbeats 400000 in
set_option maxRecDepth 100000 in
theorem c_X7_isError (l : Launch) {D : va_G} {tys : List (ClassId × FieldType)} {Z : (Nat → Prop) → State → Heap → Prop} (hZ : q_St Z) {cI : ClassId} (hI : tys[0]? = some (cI, .int)) (h0 : Nat) (aS : Nat) (aZ : Nat) (aV : Nat) (aN : Nat) (aU : Nat) (aD : Nat) (fd : Nat → Int32) (hh : Int64) (wP : va_W) (hP : k_isP cI h0 aS aZ aV aN aU aD fd hh wP) (bx : k_Bx) (at0 : Nat) (ln : List (Nat × Nat)) (sc : Nat → Int32) (wQ : va_W) (hQ : k_isQ cI aS bx at0 ln sc wQ) (k : Nat) (hk : k < ln.length) : q_Ct l D tys Z yX7_isError wsX7_isError ({ frames := 1, cells := 0, slots := 0, locals := 42 } : Room) 0 0 [.ref h0, .int (nI k)] [wP, wQ] (fun v0 R0 _ => v0 = some (.int (q_b (decide (¬ (k_la ln k).1 = (k_la ln k).2)))) ∧ R0 = [wP, wQ]) := by
  have hcI := hI
  refine q_ct (cc := cX7_isError) (maxL := 2) (ret := (some .boolean)) (own := RX7) (by decide) rfl hZ (Nat.le_of_ble_eq_true rfl) rfl ?_
  intro p9 e9 R s9 m9 args below meth c9 A Q C B
  have hts := C.2.2.2.2.1
  have hinX7 : ∀ w ∈ u_ws RX7 TX7 16, w ∈ wsX7_isError := by decide +kernel
  have f7 := hts (.fieldLink RX7 7 "SortCasesModel" "s" "[I") (by decide +kernel)
  refine q_eqL (L' := [(0, .ref h0), (1, .int (nI k))]) rfl ?_
  refine q_aload_n C dX7_isError_0 1 0 rfl rfl ?_
  obtain rfl := hP
  have hPo1 : k_isP cI h0 aS aZ aV aN aU aD fd hh [(h0, .inr (6, [.int (fd 0), .ref aS, .ref aZ, .ref aV, .int (fd 4), .ref aN, .int (fd 6), .ref aU, .int (fd 8), .int (fd 9), .int (fd 10), .ref aD, .int (fd 12), .int (fd 13), .int (fd 14), .long hh]))] := rfl
  refine q_get (k := 0) (j := 0) (f := 1) C hinX7 f7 (fun _ h => h) (by decide) rfl dX7_isError_1 4 rfl rfl rfl rfl ?_
  refine q_bipush (v := nI 13) C dX7_isError_4 6 rfl (by decide) ?_
  refine q_iload_n C dX7_isError_6 7 1 rfl rfl ?_
  refine q_iadd (v := nI (k + 13)) C dX7_isError_7 8 rfl (q_nadd (by omega)) ?_
  obtain ⟨hat2, hok2, hlok2, f2, hm2, rfl⟩ := hQ
  have hll2 := hlok2.1
  have hQo2 : k_isQ cI aS bx at0 ln sc [(aS, .inl (cI, 350, .inl f2))] := ⟨hat2, hok2, hlok2, f2, hm2, rfl⟩
  refine q_iald (k := 1) (j := 0) (v := nI ((k_la ln k).1)) C dX7_isError_8 9 rfl rfl rfl hcI (k + 13) rfl (by omega) (by decide) ((hm2.2.2.2.1 k (by omega)).1) ?_
  have hla8_1 : (k_la ln k).1 < 12 := (k_la_lt hlok2 (by omega)).1
  refine q_aload_n C dX7_isError_9 10 0 rfl rfl ?_
  refine q_get (k := 0) (j := 0) (f := 1) C hinX7 f7 (fun _ h => h) (by decide) rfl dX7_isError_10 13 rfl rfl rfl rfl ?_
  refine q_bipush (v := nI 54) C dX7_isError_13 15 rfl (by decide) ?_
  refine q_iload_n C dX7_isError_15 16 1 rfl rfl ?_
  refine q_iadd (v := nI (k + 54)) C dX7_isError_16 17 rfl (q_nadd (by omega)) ?_
  refine q_iald (k := 1) (j := 0) (v := nI ((k_la ln k).2)) C dX7_isError_17 18 rfl rfl rfl hcI (k + 54) rfl (by omega) (by decide) ((hm2.2.2.2.1 k (by omega)).2) ?_
  have hla17_2 : (k_la ln k).2 < 12 := (k_la_lt hlok2 (by omega)).2
  refine q_icmp_eq C dX7_isError_18 21 25 rfl (by decide) (nI_eq (by omega) (by omega)) (fun h18 => ?_) (fun h18 => ?_)
  · refine q_iconst (v := nI 0) C dX7_isError_25 26 rfl (by decide) ?_
    exact q_zret C B (by decide) dX7_isError_26 rfl rfl (fun t0 ht0 => ⟨by first | rw [decide_eq_true (by omega : ¬ (k_la ln k).1 = (k_la ln k).2)]; rfl | rw [decide_eq_false (by omega : ¬ ¬ (k_la ln k).1 = (k_la ln k).2)]; rfl, rfl⟩)
  · refine q_iconst (v := nI 1) C dX7_isError_21 22 rfl (by decide) ?_
    refine q_goto C dX7_isError_22 26 (by decide) ?_
    exact q_zret C B (by decide) dX7_isError_26 rfl rfl (fun t0 ht0 => ⟨by first | rw [decide_eq_true (by omega : ¬ (k_la ln k).1 = (k_la ln k).2)]; rfl | rw [decide_eq_false (by omega : ¬ ¬ (k_la ln k).1 = (k_la ln k).2)]; rfl, rfl⟩)

set_option maxHeartbeats 400000 in
set_option maxRecDepth 100000 in
theorem c_X7_errors (l : Launch) {D : va_G} {tys : List (ClassId × FieldType)} {Z : (Nat → Prop) → State → Heap → Prop} (hZ : q_St Z) {cI : ClassId} (hI : tys[0]? = some (cI, .int)) (h0 : Nat) (aS : Nat) (aZ : Nat) (aV : Nat) (aN : Nat) (aU : Nat) (aD : Nat) (fd : Nat → Int32) (hh : Int64) (wP : va_W) (hP : k_isP cI h0 aS aZ aV aN aU aD fd hh wP) (bx : k_Bx) (at0 : Nat) (ln : List (Nat × Nat)) (sc : Nat → Int32) (wQ : va_W) (hQ : k_isQ cI aS bx at0 ln sc wQ) : q_Ct l D tys Z yX7_errors wsX7_errors ({ frames := 2, cells := 0, slots := 0, locals := 72 } : Room) 0 0 [.ref h0] [wP, wQ] (fun v0 R0 _ => v0 = some (.int (nI (k_er ln))) ∧ R0 = [wP, wQ]) := by
  have hcI := hI
  refine q_ct (cc := cX7_errors) (maxL := 3) (ret := (some .int)) (own := RX7) (by decide) rfl hZ (Nat.le_of_ble_eq_true rfl) rfl ?_
  intro p9 e9 R s9 m9 args below meth c9 A Q C B
  have hts := C.2.2.2.2.1
  have hinX7 : ∀ w ∈ u_ws RX7 TX7 16, w ∈ wsX7_errors := by decide +kernel
  have f7 := hts (.fieldLink RX7 7 "SortCasesModel" "s" "[I") (by decide +kernel)
  refine q_eqL (L' := [(0, .ref h0)]) rfl ?_
  obtain ⟨hat1, hok1, hlok1, f1, hm1, rfl⟩ := hQ
  have hll1 := hlok1.1
  have hQo1 : k_isQ cI aS bx at0 ln sc [(aS, .inl (cI, 350, .inl f1))] := ⟨hat1, hok1, hlok1, f1, hm1, rfl⟩
  refine q_iconst (v := nI 0) C dX7_errors_0 1 rfl (by decide) ?_
  refine q_istore_n C dX7_errors_1 2 rfl [(1, .int (nI 0)), (0, .ref h0)] (by decide) rfl ?_
  refine q_iconst (v := nI 0) C dX7_errors_2 3 rfl (by decide) ?_
  refine q_istore_n C dX7_errors_3 4 rfl [(2, .int (nI 0)), (1, .int (nI 0)), (0, .ref h0)] (by decide) rfl ?_
  have lp : ∀ (kk : Nat) (i : Nat) (n : Nat), ln.length - i < kk → ∀ (hi : i ≤ ln.length), ∀ (hn : n = k_cnt (fun i => decide (¬ (k_la ln i).1 = (k_la ln i).2)) i), q_V p9 l e9 R s9 m9 args below meth c9 D A 3 Q 0 0 4 [(2, .int (nI i)), (1, .int (nI n)), (0, .ref h0)] [] [wP, [(aS, .inl (cI, 350, .inl f1))]] := by
    intro kk
    induction kk with
    | zero => intro i n hkk; exact absurd hkk (Nat.not_lt_zero _)
    | succ kk ih_lp =>
      intro i n hkk hi hn
      refine q_iload_n C dX7_errors_4 5 0 rfl rfl ?_
      refine q_aload_n C dX7_errors_5 6 2 rfl rfl ?_
      obtain rfl := hP
      have hPo2 : k_isP cI h0 aS aZ aV aN aU aD fd hh [(h0, .inr (6, [.int (fd 0), .ref aS, .ref aZ, .ref aV, .int (fd 4), .ref aN, .int (fd 6), .ref aU, .int (fd 8), .int (fd 9), .int (fd 10), .ref aD, .int (fd 12), .int (fd 13), .int (fd 14), .long hh]))] := rfl
      refine q_get (k := 0) (j := 0) (f := 1) C hinX7 f7 (fun _ h => h) (by decide) rfl dX7_errors_6 9 rfl rfl rfl rfl ?_
      refine q_bipush (v := nI 12) C dX7_errors_9 11 rfl (by decide) ?_
      refine q_iald (k := 1) (j := 0) (v := nI ln.length) C dX7_errors_11 12 rfl rfl rfl hcI 12 rfl (by omega) (by decide) (hm1.2.2.1) ?_
      refine q_icmp_ge C dX7_errors_12 15 37 rfl (by decide) (nI_leI (by omega) (by omega)) (fun h12 => ?_) (fun h12 => ?_)
      · refine q_iload_n C dX7_errors_37 38 1 rfl rfl ?_
        exact q_iret C B dX7_errors_38 rfl rfl (fun t0 ht0 => ⟨by rw [hn, show i = ln.length by omega]; rfl, rfl⟩)
      · refine q_iload_n C dX7_errors_15 16 1 rfl rfl ?_
        refine q_aload_n C dX7_errors_16 17 2 rfl rfl ?_
        refine q_iload_n C dX7_errors_17 18 0 rfl rfl ?_
        refine q_callV (k := 0) (ci := 6) (n := 1) (rest := [.int (nI n)]) (Rr := []) C rfl (k_isP_recv hPo2) rfl (c_X7_isError l hZ hI h0 aS aZ aV aN aU aD fd hh ([(h0, .inr (6, [.int (fd 0), .ref aS, .ref aZ, .ref aV, .int (fd 4), .ref aN, .int (fd 6), .ref aU, .int (fd 8), .int (fd 9), .int (fd 10), .ref aD, .int (fd 12), .int (fd 13), .int (fd 14), .long hh]))]) hPo2 bx at0 ln sc ([(aS, .inl (cI, 350, .inl f1))]) hQo1 i (by omega)) gX7_errors_X7_isError rfl rfl rfl (by decide +kernel) B.1 ⟨Nat.le_of_ble_eq_true rfl, Nat.le_of_ble_eq_true rfl⟩ rfl rfl (Nat.le_of_ble_eq_true rfl) dX7_errors_18 ⟨Nat.le_of_ble_eq_true rfl, Nat.le_of_ble_eq_true rfl⟩ [0, 1] [] (by decide : ([0, 1] ++ ([] : List Nat)).Perm (List.range 2)) rfl rfl 21 rfl (fun v0 R0 t0 ht0 hp0 => ?_)
        obtain ⟨rfl, rfl⟩ := hp0
        refine q_eqs (st' := [.int (q_b (decide (¬ (k_la ln i).1 = (k_la ln i).2))), .int (nI n)]) rfl ?_
        refine q_eqR (Rs' := [[(h0, .inr (6, [.int (fd 0), .ref aS, .ref aZ, .ref aV, .int (fd 4), .ref aN, .int (fd 6), .ref aU, .int (fd 8), .int (fd 9), .int (fd 10), .ref aD, .int (fd 12), .int (fd 13), .int (fd 14), .long hh]))], [(aS, .inl (cI, 350, .inl f1))]]) rfl ?_
        refine q_if_eq (P := ¬ (¬ (k_la ln i).1 = (k_la ln i).2)) C dX7_errors_21 24 28 rfl (by decide) q_bd0 (fun h21 => ?_) (fun h21 => ?_)
        · refine q_iconst (v := nI 0) C dX7_errors_28 29 rfl (by decide) ?_
          refine q_iadd (v := nI n) C dX7_errors_29 30 rfl (q_nadd (by omega)) ?_
          refine q_istore_n C dX7_errors_30 31 rfl [(1, .int (nI n)), (2, .int (nI i)), (0, .ref h0)] (by decide) rfl ?_
          refine q_iinc (v := nI (i + 1)) C dX7_errors_31 34 1 rfl rfl (q_ninc1 (by omega)) [(2, .int (nI (i + 1))), (1, .int (nI n)), (0, .ref h0)] (by decide) rfl ?_
          refine q_goto C dX7_errors_34 4 (by decide) ?_
          refine q_sub (L' := [(2, .int (nI (i + 1))), (1, .int (nI n)), (0, .ref h0)]) [0, 1, 2] rfl ?_
          exact ih_lp (i + 1) n (by omega) (by omega) (by first | (rw [k_cnt_t (by simp; omega)]; omega) | (rw [k_cnt_f (by simp; omega)]; omega))
        · refine q_iconst (v := nI 1) C dX7_errors_24 25 rfl (by decide) ?_
          refine q_goto C dX7_errors_25 29 (by decide) ?_
          refine q_iadd (v := nI (n + 1)) C dX7_errors_29 30 rfl (q_nadd (by omega)) ?_
          refine q_istore_n C dX7_errors_30 31 rfl [(1, .int (nI (n + 1))), (2, .int (nI i)), (0, .ref h0)] (by decide) rfl ?_
          refine q_iinc (v := nI (i + 1)) C dX7_errors_31 34 1 rfl rfl (q_ninc1 (by omega)) [(2, .int (nI (i + 1))), (1, .int (nI (n + 1))), (0, .ref h0)] (by decide) rfl ?_
          refine q_goto C dX7_errors_34 4 (by decide) ?_
          refine q_sub (L' := [(2, .int (nI (i + 1))), (1, .int (nI (n + 1))), (0, .ref h0)]) [0, 1, 2] rfl ?_
          exact ih_lp (i + 1) (n + 1) (by omega) (by omega) (by first | (rw [k_cnt_t (by simp; omega)]; omega) | (rw [k_cnt_f (by simp; omega)]; omega))
  refine q_sub (L' := [(2, .int (nI 0)), (1, .int (nI 0)), (0, .ref h0)]) [0, 1, 2] rfl ?_
  exact lp _ 0 0 (Nat.lt_succ_self _) (by omega) rfl

set_option maxHeartbeats 400000 in
set_option maxRecDepth 100000 in
theorem c_X7_wrongIn (l : Launch) {D : va_G} {tys : List (ClassId × FieldType)} {Z : (Nat → Prop) → State → Heap → Prop} (hZ : q_St Z) {cI : ClassId} (hI : tys[0]? = some (cI, .int)) (h0 : Nat) (aS : Nat) (aZ : Nat) (aV : Nat) (aN : Nat) (aU : Nat) (aD : Nat) (fd : Nat → Int32) (hh : Int64) (wP : va_W) (hP : k_isP cI h0 aS aZ aV aN aU aD fd hh wP) (bx : k_Bx) (at0 : Nat) (ln : List (Nat × Nat)) (sc : Nat → Int32) (wQ : va_W) (hQ : k_isQ cI aS bx at0 ln sc wQ) (b : Nat) (hb : b < 12) : q_Ct l D tys Z yX7_wrongIn wsX7_wrongIn ({ frames := 2, cells := 0, slots := 0, locals := 72 } : Room) 0 0 [.ref h0, .int (nI b)] [wP, wQ] (fun v0 R0 _ => v0 = some (.int (nI (k_wi bx b))) ∧ R0 = [wP, wQ]) := by
  have hcI := hI
  refine q_ct (cc := cX7_wrongIn) (maxL := 4) (ret := (some .int)) (own := RX7) (by decide) rfl hZ (Nat.le_of_ble_eq_true rfl) rfl ?_
  intro p9 e9 R s9 m9 args below meth c9 A Q C B
  have hts := C.2.2.2.2.1
  refine q_eqL (L' := [(0, .ref h0), (1, .int (nI b))]) rfl ?_
  refine q_iconst (v := nI 0) C dX7_wrongIn_0 1 rfl (by decide) ?_
  refine q_istore_n C dX7_wrongIn_1 2 rfl [(2, .int (nI 0)), (0, .ref h0), (1, .int (nI b))] (by decide) rfl ?_
  refine q_iconst (v := nI 0) C dX7_wrongIn_2 3 rfl (by decide) ?_
  refine q_istore_n C dX7_wrongIn_3 4 rfl [(3, .int (nI 0)), (2, .int (nI 0)), (0, .ref h0), (1, .int (nI b))] (by decide) rfl ?_
  have lp : ∀ (kk : Nat) (i : Nat) (n : Nat), (bx b).length - i < kk → ∀ (hi : i ≤ (bx b).length), ∀ (hn : n = k_cnt (fun i => k_at (bx b) i != b) i), q_V p9 l e9 R s9 m9 args below meth c9 D A 4 Q 0 0 4 [(3, .int (nI i)), (2, .int (nI n)), (0, .ref h0), (1, .int (nI b))] [] [wP, wQ] := by
    intro kk
    induction kk with
    | zero => intro i n hkk; exact absurd hkk (Nat.not_lt_zero _)
    | succ kk ih_lp =>
      intro i n hkk hi hn
      have hnl := k_cnt_le (fun i => k_at (bx b) i != b) i
      rw [← hn] at hnl
      refine q_iload_n C dX7_wrongIn_4 5 0 rfl rfl ?_
      refine q_aload_n C dX7_wrongIn_5 6 2 rfl rfl ?_
      refine q_iload_n C dX7_wrongIn_6 7 3 rfl rfl ?_
      refine q_callV (k := 0) (ci := 6) (n := 1) (rest := [.int (nI i)]) (Rr := []) C rfl (k_isP_recv hP) rfl (c_X7_many_q l hZ hI h0 aS aZ aV aN aU aD fd hh wP hP bx at0 ln sc wQ hQ b (by omega)) gX7_wrongIn_X7_many rfl rfl rfl (by decide +kernel) B.1 ⟨Nat.le_of_ble_eq_true rfl, Nat.le_of_ble_eq_true rfl⟩ rfl rfl (Nat.le_of_ble_eq_true rfl) dX7_wrongIn_7 ⟨Nat.le_of_ble_eq_true rfl, Nat.le_of_ble_eq_true rfl⟩ [0, 1] [] (by decide : ([0, 1] ++ ([] : List Nat)).Perm (List.range 2)) rfl rfl 10 rfl (fun v0 R0 t0 ht0 hp0 => ?_)
      obtain ⟨rfl, rfl⟩ := hp0
      refine q_eqs (st' := [.int (nI ((bx b).length)), .int (nI i)]) rfl ?_
      refine q_eqR (Rs' := [wP, wQ]) rfl ?_
      have hh7 : (bx b).length ≤ 20 := (hQ.2.1 b (by omega)).1
      refine q_icmp_ge C dX7_wrongIn_10 13 37 rfl (by decide) (nI_leI (by omega) (by omega)) (fun h10 => ?_) (fun h10 => ?_)
      · refine q_iload_n C dX7_wrongIn_37 38 1 rfl rfl ?_
        exact q_iret C B dX7_wrongIn_38 rfl rfl (fun t0 ht0 => ⟨by rw [hn, show i = (bx b).length by omega]; rfl, rfl⟩)
      · refine q_iload_n C dX7_wrongIn_13 14 1 rfl rfl ?_
        refine q_aload_n C dX7_wrongIn_14 15 2 rfl rfl ?_
        refine q_iload_n C dX7_wrongIn_15 16 3 rfl rfl ?_
        refine q_iload_n C dX7_wrongIn_16 17 0 rfl rfl ?_
        refine q_callV (k := 0) (ci := 6) (n := 2) (rest := [.int (nI n)]) (Rr := []) C rfl (k_isP_recv hP) rfl (c_X7_typeAt_q l hZ hI h0 aS aZ aV aN aU aD fd hh wP hP bx at0 ln sc wQ hQ b i (by omega) (by omega)) gX7_wrongIn_X7_typeAt rfl rfl rfl (by decide +kernel) B.1 ⟨Nat.le_of_ble_eq_true rfl, Nat.le_of_ble_eq_true rfl⟩ rfl rfl (Nat.le_of_ble_eq_true rfl) dX7_wrongIn_17 ⟨Nat.le_of_ble_eq_true rfl, Nat.le_of_ble_eq_true rfl⟩ [0, 1] [] (by decide : ([0, 1] ++ ([] : List Nat)).Perm (List.range 2)) rfl rfl 20 rfl (fun v0 R0 t0 ht0 hp0 => ?_)
        obtain ⟨rfl, rfl⟩ := hp0
        refine q_eqs (st' := [.int (nI (k_at (bx b) i)), .int (nI n)]) rfl ?_
        refine q_eqR (Rs' := [wP, wQ]) rfl ?_
        have ht17 : k_at (bx b) i < 12 := k_at_lt (hQ.2.1 b (by omega)).2 (by omega)
        refine q_iload_n C dX7_wrongIn_20 21 3 rfl rfl ?_
        refine q_icmp_eq C dX7_wrongIn_21 24 28 rfl (by decide) (nI_eq (by omega) (by omega)) (fun h21 => ?_) (fun h21 => ?_)
        · refine q_iconst (v := nI 0) C dX7_wrongIn_28 29 rfl (by decide) ?_
          refine q_iadd (v := nI n) C dX7_wrongIn_29 30 rfl (q_nadd (by omega)) ?_
          refine q_istore_n C dX7_wrongIn_30 31 rfl [(2, .int (nI n)), (3, .int (nI i)), (0, .ref h0), (1, .int (nI b))] (by decide) rfl ?_
          refine q_iinc (v := nI (i + 1)) C dX7_wrongIn_31 34 1 rfl rfl (q_ninc1 (by omega)) [(3, .int (nI (i + 1))), (2, .int (nI n)), (0, .ref h0), (1, .int (nI b))] (by decide) rfl ?_
          refine q_goto C dX7_wrongIn_34 4 (by decide) ?_
          refine q_sub (L' := [(3, .int (nI (i + 1))), (2, .int (nI n)), (0, .ref h0), (1, .int (nI b))]) [0, 1, 2, 3] rfl ?_
          exact ih_lp (i + 1) n (by omega) (by omega) (by first | (rw [k_cnt_t (by simp; omega)]; omega) | (rw [k_cnt_f (by simp; omega)]; omega))
        · refine q_iconst (v := nI 1) C dX7_wrongIn_24 25 rfl (by decide) ?_
          refine q_goto C dX7_wrongIn_25 29 (by decide) ?_
          refine q_iadd (v := nI (n + 1)) C dX7_wrongIn_29 30 rfl (q_nadd (by omega)) ?_
          refine q_istore_n C dX7_wrongIn_30 31 rfl [(2, .int (nI (n + 1))), (3, .int (nI i)), (0, .ref h0), (1, .int (nI b))] (by decide) rfl ?_
          refine q_iinc (v := nI (i + 1)) C dX7_wrongIn_31 34 1 rfl rfl (q_ninc1 (by omega)) [(3, .int (nI (i + 1))), (2, .int (nI (n + 1))), (0, .ref h0), (1, .int (nI b))] (by decide) rfl ?_
          refine q_goto C dX7_wrongIn_34 4 (by decide) ?_
          refine q_sub (L' := [(3, .int (nI (i + 1))), (2, .int (nI (n + 1))), (0, .ref h0), (1, .int (nI b))]) [0, 1, 2, 3] rfl ?_
          exact ih_lp (i + 1) (n + 1) (by omega) (by omega) (by first | (rw [k_cnt_t (by simp; omega)]; omega) | (rw [k_cnt_f (by simp; omega)]; omega))
  refine q_sub (L' := [(3, .int (nI 0)), (2, .int (nI 0)), (0, .ref h0), (1, .int (nI b))]) [0, 1, 2, 3] rfl ?_
  exact lp _ 0 0 (Nat.lt_succ_self _) (by omega) rfl

set_option maxHeartbeats 400000 in
set_option maxRecDepth 100000 in
theorem c_X7_wrong (l : Launch) {D : va_G} {tys : List (ClassId × FieldType)} {Z : (Nat → Prop) → State → Heap → Prop} (hZ : q_St Z) {cI : ClassId} (hI : tys[0]? = some (cI, .int)) (h0 : Nat) (aS : Nat) (aZ : Nat) (aV : Nat) (aN : Nat) (aU : Nat) (aD : Nat) (fd : Nat → Int32) (hh : Int64) (wP : va_W) (hP : k_isP cI h0 aS aZ aV aN aU aD fd hh wP) (bx : k_Bx) (at0 : Nat) (ln : List (Nat × Nat)) (sc : Nat → Int32) (wQ : va_W) (hQ : k_isQ cI aS bx at0 ln sc wQ) : q_Ct l D tys Z yX7_wrong wsX7_wrong ({ frames := 3, cells := 0, slots := 0, locals := 102 } : Room) 0 0 [.ref h0] [wP, wQ] (fun v0 R0 _ => v0 = some (.int (nI (k_wr bx))) ∧ R0 = [wP, wQ]) := by
  have hcI := hI
  refine q_ct (cc := cX7_wrong) (maxL := 3) (ret := (some .int)) (own := RX7) (by decide) rfl hZ (Nat.le_of_ble_eq_true rfl) rfl ?_
  intro p9 e9 R s9 m9 args below meth c9 A Q C B
  have hts := C.2.2.2.2.1
  refine q_eqL (L' := [(0, .ref h0)]) rfl ?_
  refine q_iconst (v := nI 0) C dX7_wrong_0 1 rfl (by decide) ?_
  refine q_istore_n C dX7_wrong_1 2 rfl [(1, .int (nI 0)), (0, .ref h0)] (by decide) rfl ?_
  refine q_iconst (v := nI 0) C dX7_wrong_2 3 rfl (by decide) ?_
  refine q_istore_n C dX7_wrong_3 4 rfl [(2, .int (nI 0)), (1, .int (nI 0)), (0, .ref h0)] (by decide) rfl ?_
  have lp : ∀ (kk : Nat) (i : Nat) (n : Nat), 12 - i < kk → ∀ (hi : i ≤ 12), ∀ (hn : n = k_sum (fun b => k_wi bx b) i), ∀ (hnb : n ≤ 20 * i), q_V p9 l e9 R s9 m9 args below meth c9 D A 3 Q 0 0 4 [(2, .int (nI i)), (1, .int (nI n)), (0, .ref h0)] [] [wP, wQ] := by
    intro kk
    induction kk with
    | zero => intro i n hkk; exact absurd hkk (Nat.not_lt_zero _)
    | succ kk ih_lp =>
      intro i n hkk hi hn hnb
      refine q_iload_n C dX7_wrong_4 5 0 rfl rfl ?_
      refine q_bipush (v := nI 12) C dX7_wrong_5 7 rfl (by decide) ?_
      refine q_icmp_ge C dX7_wrong_7 10 24 rfl (by decide) (nI_leI (by omega) (by omega)) (fun h7 => ?_) (fun h7 => ?_)
      · refine q_iload_n C dX7_wrong_24 25 1 rfl rfl ?_
        exact q_iret C B dX7_wrong_25 rfl rfl (fun t0 ht0 => ⟨by rw [hn, show i = 12 by omega]; rfl, rfl⟩)
      · refine q_iload_n C dX7_wrong_10 11 1 rfl rfl ?_
        refine q_aload_n C dX7_wrong_11 12 2 rfl rfl ?_
        refine q_iload_n C dX7_wrong_12 13 0 rfl rfl ?_
        refine q_callV (k := 0) (ci := 6) (n := 1) (rest := [.int (nI n)]) (Rr := []) C rfl (k_isP_recv hP) rfl (c_X7_wrongIn l hZ hI h0 aS aZ aV aN aU aD fd hh wP hP bx at0 ln sc wQ hQ i (by omega)) gX7_wrong_X7_wrongIn rfl rfl rfl (by decide +kernel) B.1 ⟨Nat.le_of_ble_eq_true rfl, Nat.le_of_ble_eq_true rfl⟩ rfl rfl (Nat.le_of_ble_eq_true rfl) dX7_wrong_13 ⟨Nat.le_of_ble_eq_true rfl, Nat.le_of_ble_eq_true rfl⟩ [0, 1] [] (by decide : ([0, 1] ++ ([] : List Nat)).Perm (List.range 2)) rfl rfl 16 rfl (fun v0 R0 t0 ht0 hp0 => ?_)
        obtain ⟨rfl, rfl⟩ := hp0
        refine q_eqs (st' := [.int (nI (k_wi bx i)), .int (nI n)]) rfl ?_
        refine q_eqR (Rs' := [wP, wQ]) rfl ?_
        have hc13 : k_wi bx i ≤ (bx i).length := k_wi_le _ _
        have hd13 : (bx i).length ≤ 20 := (hQ.2.1 i (by omega)).1
        refine q_iadd (v := nI (n + k_wi bx i)) C dX7_wrong_16 17 rfl (q_nadd (by omega)) ?_
        refine q_istore_n C dX7_wrong_17 18 rfl [(1, .int (nI (n + k_wi bx i))), (2, .int (nI i)), (0, .ref h0)] (by decide) rfl ?_
        refine q_iinc (v := nI (i + 1)) C dX7_wrong_18 21 1 rfl rfl (q_ninc1 (by omega)) [(2, .int (nI (i + 1))), (1, .int (nI (n + k_wi bx i))), (0, .ref h0)] (by decide) rfl ?_
        refine q_goto C dX7_wrong_21 4 (by decide) ?_
        refine q_sub (L' := [(2, .int (nI (i + 1))), (1, .int (nI (n + k_wi bx i))), (0, .ref h0)]) [0, 1, 2] rfl ?_
        exact ih_lp (i + 1) (n + k_wi bx i) (by omega) (by omega) (by rw [k_sum_s]; first | omega | (rw [if_pos (by omega)]; omega) | (rw [if_neg (by omega)]; omega)) (by omega)
  refine q_sub (L' := [(2, .int (nI 0)), (1, .int (nI 0)), (0, .ref h0)]) [0, 1, 2] rfl ?_
  exact lp _ 0 0 (Nat.lt_succ_self _) (by omega) (by rw [k_sum_0]) (by omega)

set_option maxHeartbeats 400000 in
set_option maxRecDepth 100000 in
theorem c_X7_inBoxes (l : Launch) {D : va_G} {tys : List (ClassId × FieldType)} {Z : (Nat → Prop) → State → Heap → Prop} (hZ : q_St Z) {cI : ClassId} (hI : tys[0]? = some (cI, .int)) (h0 : Nat) (aS : Nat) (aZ : Nat) (aV : Nat) (aN : Nat) (aU : Nat) (aD : Nat) (fd : Nat → Int32) (hh : Int64) (wP : va_W) (hP : k_isP cI h0 aS aZ aV aN aU aD fd hh wP) (bx : k_Bx) (at0 : Nat) (ln : List (Nat × Nat)) (sc : Nat → Int32) (wQ : va_W) (hQ : k_isQ cI aS bx at0 ln sc wQ) : q_Ct l D tys Z yX7_inBoxes wsX7_inBoxes ({ frames := 2, cells := 0, slots := 0, locals := 72 } : Room) 0 0 [.ref h0] [wP, wQ] (fun v0 R0 _ => v0 = some (.int (nI (k_ty bx))) ∧ R0 = [wP, wQ]) := by
  have hcI := hI
  refine q_ct (cc := cX7_inBoxes) (maxL := 3) (ret := (some .int)) (own := RX7) (by decide) rfl hZ (Nat.le_of_ble_eq_true rfl) rfl ?_
  intro p9 e9 R s9 m9 args below meth c9 A Q C B
  have hts := C.2.2.2.2.1
  refine q_eqL (L' := [(0, .ref h0)]) rfl ?_
  refine q_iconst (v := nI 0) C dX7_inBoxes_0 1 rfl (by decide) ?_
  refine q_istore_n C dX7_inBoxes_1 2 rfl [(1, .int (nI 0)), (0, .ref h0)] (by decide) rfl ?_
  refine q_iconst (v := nI 0) C dX7_inBoxes_2 3 rfl (by decide) ?_
  refine q_istore_n C dX7_inBoxes_3 4 rfl [(2, .int (nI 0)), (1, .int (nI 0)), (0, .ref h0)] (by decide) rfl ?_
  have lp : ∀ (kk : Nat) (i : Nat) (n : Nat), 12 - i < kk → ∀ (hi : i ≤ 12), ∀ (hn : n = k_sum (fun b => (bx b).length) i), ∀ (hnb : n ≤ 20 * i), q_V p9 l e9 R s9 m9 args below meth c9 D A 3 Q 0 0 4 [(2, .int (nI i)), (1, .int (nI n)), (0, .ref h0)] [] [wP, wQ] := by
    intro kk
    induction kk with
    | zero => intro i n hkk; exact absurd hkk (Nat.not_lt_zero _)
    | succ kk ih_lp =>
      intro i n hkk hi hn hnb
      refine q_iload_n C dX7_inBoxes_4 5 0 rfl rfl ?_
      refine q_bipush (v := nI 12) C dX7_inBoxes_5 7 rfl (by decide) ?_
      refine q_icmp_ge C dX7_inBoxes_7 10 24 rfl (by decide) (nI_leI (by omega) (by omega)) (fun h7 => ?_) (fun h7 => ?_)
      · refine q_iload_n C dX7_inBoxes_24 25 1 rfl rfl ?_
        exact q_iret C B dX7_inBoxes_25 rfl rfl (fun t0 ht0 => ⟨by rw [hn, show i = 12 by omega]; rfl, rfl⟩)
      · refine q_iload_n C dX7_inBoxes_10 11 1 rfl rfl ?_
        refine q_aload_n C dX7_inBoxes_11 12 2 rfl rfl ?_
        refine q_iload_n C dX7_inBoxes_12 13 0 rfl rfl ?_
        refine q_callV (k := 0) (ci := 6) (n := 1) (rest := [.int (nI n)]) (Rr := []) C rfl (k_isP_recv hP) rfl (c_X7_many_q l hZ hI h0 aS aZ aV aN aU aD fd hh wP hP bx at0 ln sc wQ hQ i (by omega)) gX7_inBoxes_X7_many rfl rfl rfl (by decide +kernel) B.1 ⟨Nat.le_of_ble_eq_true rfl, Nat.le_of_ble_eq_true rfl⟩ rfl rfl (Nat.le_of_ble_eq_true rfl) dX7_inBoxes_13 ⟨Nat.le_of_ble_eq_true rfl, Nat.le_of_ble_eq_true rfl⟩ [0, 1] [] (by decide : ([0, 1] ++ ([] : List Nat)).Perm (List.range 2)) rfl rfl 16 rfl (fun v0 R0 t0 ht0 hp0 => ?_)
        obtain ⟨rfl, rfl⟩ := hp0
        refine q_eqs (st' := [.int (nI ((bx i).length)), .int (nI n)]) rfl ?_
        refine q_eqR (Rs' := [wP, wQ]) rfl ?_
        have hh13 : (bx i).length ≤ 20 := (hQ.2.1 i (by omega)).1
        refine q_iadd (v := nI (n + (bx i).length)) C dX7_inBoxes_16 17 rfl (q_nadd (by omega)) ?_
        refine q_istore_n C dX7_inBoxes_17 18 rfl [(1, .int (nI (n + (bx i).length))), (2, .int (nI i)), (0, .ref h0)] (by decide) rfl ?_
        refine q_iinc (v := nI (i + 1)) C dX7_inBoxes_18 21 1 rfl rfl (q_ninc1 (by omega)) [(2, .int (nI (i + 1))), (1, .int (nI (n + (bx i).length))), (0, .ref h0)] (by decide) rfl ?_
        refine q_goto C dX7_inBoxes_21 4 (by decide) ?_
        refine q_sub (L' := [(2, .int (nI (i + 1))), (1, .int (nI (n + (bx i).length))), (0, .ref h0)]) [0, 1, 2] rfl ?_
        exact ih_lp (i + 1) (n + (bx i).length) (by omega) (by omega) (by rw [k_sum_s]; first | omega | (rw [if_pos (by omega)]; omega) | (rw [if_neg (by omega)]; omega)) (by omega)
  refine q_sub (L' := [(2, .int (nI 0)), (1, .int (nI 0)), (0, .ref h0)]) [0, 1, 2] rfl ?_
  exact lp _ 0 0 (Nat.lt_succ_self _) (by omega) (by rw [k_sum_0]) (by omega)

set_option maxHeartbeats 400000 in
set_option maxRecDepth 100000 in
theorem c_X7_elsewhere (l : Launch) {D : va_G} {tys : List (ClassId × FieldType)} {Z : (Nat → Prop) → State → Heap → Prop} (hZ : q_St Z) {cI : ClassId} (hI : tys[0]? = some (cI, .int)) (h0 : Nat) (aS : Nat) (aZ : Nat) (aV : Nat) (aN : Nat) (aU : Nat) (aD : Nat) (fd : Nat → Int32) (hh : Int64) (wP : va_W) (hP : k_isP cI h0 aS aZ aV aN aU aD fd hh wP) (bx : k_Bx) (at0 : Nat) (ln : List (Nat × Nat)) (sc : Nat → Int32) (wQ : va_W) (hQ : k_isQ cI aS bx at0 ln sc wQ) (x : Nat) (hx : x < 12) : q_Ct l D tys Z yX7_elsewhere wsX7_elsewhere ({ frames := 2, cells := 0, slots := 0, locals := 72 } : Room) 0 0 [.ref h0, .int (nI x)] [wP, wQ] (fun v0 R0 _ => v0 = some (.int (nI (k_st bx x))) ∧ R0 = [wP, wQ]) := by
  have hcI := hI
  refine q_ct (cc := cX7_elsewhere) (maxL := 5) (ret := (some .int)) (own := RX7) (by decide) rfl hZ (Nat.le_of_ble_eq_true rfl) rfl ?_
  intro p9 e9 R s9 m9 args below meth c9 A Q C B
  have hts := C.2.2.2.2.1
  refine q_eqL (L' := [(0, .ref h0), (1, .int (nI x))]) rfl ?_
  refine q_iconst (v := nI 0) C dX7_elsewhere_0 1 rfl (by decide) ?_
  refine q_istore_n C dX7_elsewhere_1 2 rfl [(2, .int (nI 0)), (0, .ref h0), (1, .int (nI x))] (by decide) rfl ?_
  refine q_iconst (v := nI 0) C dX7_elsewhere_2 3 rfl (by decide) ?_
  refine q_istore_n C dX7_elsewhere_3 4 rfl [(3, .int (nI 0)), (2, .int (nI 0)), (0, .ref h0), (1, .int (nI x))] (by decide) rfl ?_
  have lp : ∀ (kk : Nat) (i : Nat) (n : Nat), 12 - i < kk → ∀ (hi : i ≤ 12), ∀ (hn : n = k_sum (fun b => if b = x then 0 else k_cn bx b x) i), ∀ (hnb : n ≤ 20 * i), q_V p9 l e9 R s9 m9 args below meth c9 D A 5 Q 0 0 4 [(3, .int (nI i)), (2, .int (nI n)), (0, .ref h0), (1, .int (nI x))] [] [wP, wQ] := by
    intro kk
    induction kk with
    | zero => intro i n hkk; exact absurd hkk (Nat.not_lt_zero _)
    | succ kk ih_lp =>
      intro i n hkk hi hn hnb
      refine q_iload_n C dX7_elsewhere_4 5 0 rfl rfl ?_
      refine q_bipush (v := nI 12) C dX7_elsewhere_5 7 rfl (by decide) ?_
      refine q_icmp_ge C dX7_elsewhere_7 10 59 rfl (by decide) (nI_leI (by omega) (by omega)) (fun h7 => ?_) (fun h7 => ?_)
      · refine q_iload_n C dX7_elsewhere_59 60 1 rfl rfl ?_
        exact q_iret C B dX7_elsewhere_60 rfl rfl (fun t0 ht0 => ⟨by rw [hn, show i = 12 by omega]; rfl, rfl⟩)
      · refine q_iconst (v := nI 0) C dX7_elsewhere_10 11 rfl (by decide) ?_
        refine q_istore C dX7_elsewhere_11 13 rfl [(4, .int (nI 0)), (3, .int (nI i)), (2, .int (nI n)), (0, .ref h0), (1, .int (nI x))] (by decide) rfl ?_
        have lp2 : ∀ (kk : Nat) (j : Nat) (n2 : Nat), (bx i).length - j < kk → ∀ (hj : j ≤ (bx i).length), ∀ (hj2 : j ≤ 20), ∀ (hn2 : n2 = k_sum (fun b => if b = x then 0 else k_cn bx b x) i + (if i = x then 0 else k_cnt (fun d => k_at (bx i) d == x) j)), ∀ (hnb2 : n2 ≤ 20 * i + j), q_V p9 l e9 R s9 m9 args below meth c9 D A 5 Q 0 0 13 [(4, .int (nI j)), (3, .int (nI i)), (2, .int (nI n2)), (0, .ref h0), (1, .int (nI x))] [] [wP, wQ] := by
          intro kk
          induction kk with
          | zero => intro j n2 hkk; exact absurd hkk (Nat.not_lt_zero _)
          | succ kk ih_lp2 =>
            intro j n2 hkk hj hj2 hn2 hnb2
            refine q_iload C dX7_elsewhere_13 15 0 rfl rfl ?_
            refine q_aload_n C dX7_elsewhere_15 16 3 rfl rfl ?_
            refine q_iload_n C dX7_elsewhere_16 17 1 rfl rfl ?_
            refine q_callV (k := 0) (ci := 6) (n := 1) (rest := [.int (nI j)]) (Rr := []) C rfl (k_isP_recv hP) rfl (c_X7_many_q l hZ hI h0 aS aZ aV aN aU aD fd hh wP hP bx at0 ln sc wQ hQ i (by omega)) gX7_elsewhere_X7_many rfl rfl rfl (by decide +kernel) B.1 ⟨Nat.le_of_ble_eq_true rfl, Nat.le_of_ble_eq_true rfl⟩ rfl rfl (Nat.le_of_ble_eq_true rfl) dX7_elsewhere_17 ⟨Nat.le_of_ble_eq_true rfl, Nat.le_of_ble_eq_true rfl⟩ [0, 1] [] (by decide : ([0, 1] ++ ([] : List Nat)).Perm (List.range 2)) rfl rfl 20 rfl (fun v0 R0 t0 ht0 hp0 => ?_)
            obtain ⟨rfl, rfl⟩ := hp0
            refine q_eqs (st' := [.int (nI ((bx i).length)), .int (nI j)]) rfl ?_
            refine q_eqR (Rs' := [wP, wQ]) rfl ?_
            have hh17 : (bx i).length ≤ 20 := (hQ.2.1 i (by omega)).1
            refine q_icmp_ge C dX7_elsewhere_20 23 53 rfl (by decide) (nI_leI (by omega) (by omega)) (fun h20 => ?_) (fun h20 => ?_)
            · refine q_iinc (v := nI (i + 1)) C dX7_elsewhere_53 56 1 rfl rfl (q_ninc1 (by omega)) [(3, .int (nI (i + 1))), (4, .int (nI j)), (2, .int (nI n2)), (0, .ref h0), (1, .int (nI x))] (by decide) rfl ?_
              refine q_goto C dX7_elsewhere_56 4 (by decide) ?_
              refine q_sub (L' := [(3, .int (nI (i + 1))), (2, .int (nI n2)), (0, .ref h0), (1, .int (nI x))]) [0, 2, 3, 4] rfl ?_
              exact ih_lp (i + 1) n2 (by omega) (by omega) (by rw [k_sum_s]; rw [show j = (bx i).length by omega] at hn2; exact hn2) (by omega)
            · refine q_iload_n C dX7_elsewhere_23 24 2 rfl rfl ?_
              refine q_iload_n C dX7_elsewhere_24 25 1 rfl rfl ?_
              refine q_iload_n C dX7_elsewhere_25 26 4 rfl rfl ?_
              refine q_icmp_eq C dX7_elsewhere_26 29 44 rfl (by decide) (nI_eq (by omega) (by omega)) (fun h26 => ?_) (fun h26 => ?_)
              · refine q_iconst (v := nI 0) C dX7_elsewhere_44 45 rfl (by decide) ?_
                refine q_iadd (v := nI n2) C dX7_elsewhere_45 46 rfl (q_nadd (by omega)) ?_
                refine q_istore_n C dX7_elsewhere_46 47 rfl [(2, .int (nI n2)), (4, .int (nI j)), (3, .int (nI i)), (0, .ref h0), (1, .int (nI x))] (by decide) rfl ?_
                refine q_iinc (v := nI (j + 1)) C dX7_elsewhere_47 50 1 rfl rfl (q_ninc1 (by omega)) [(4, .int (nI (j + 1))), (2, .int (nI n2)), (3, .int (nI i)), (0, .ref h0), (1, .int (nI x))] (by decide) rfl ?_
                refine q_goto C dX7_elsewhere_50 13 (by decide) ?_
                refine q_sub (L' := [(4, .int (nI (j + 1))), (3, .int (nI i)), (2, .int (nI n2)), (0, .ref h0), (1, .int (nI x))]) [0, 2, 1, 3, 4] rfl ?_
                exact ih_lp2 (j + 1) n2 (by omega) (by omega) (by omega) (by first | (rw [if_pos (by omega)] at hn2 ⊢; omega) | (rw [if_neg (by omega)] at hn2 ⊢; first | (rw [k_cnt_t (by simp; omega)]; omega) | (rw [k_cnt_f (by simp; omega)]; omega))) (by omega)
              · refine q_aload_n C dX7_elsewhere_29 30 3 rfl rfl ?_
                refine q_iload_n C dX7_elsewhere_30 31 1 rfl rfl ?_
                refine q_iload C dX7_elsewhere_31 33 0 rfl rfl ?_
                refine q_callV (k := 0) (ci := 6) (n := 2) (rest := [.int (nI n2)]) (Rr := []) C rfl (k_isP_recv hP) rfl (c_X7_typeAt_q l hZ hI h0 aS aZ aV aN aU aD fd hh wP hP bx at0 ln sc wQ hQ i j (by omega) (by omega)) gX7_elsewhere_X7_typeAt rfl rfl rfl (by decide +kernel) B.1 ⟨Nat.le_of_ble_eq_true rfl, Nat.le_of_ble_eq_true rfl⟩ rfl rfl (Nat.le_of_ble_eq_true rfl) dX7_elsewhere_33 ⟨Nat.le_of_ble_eq_true rfl, Nat.le_of_ble_eq_true rfl⟩ [0, 1] [] (by decide : ([0, 1] ++ ([] : List Nat)).Perm (List.range 2)) rfl rfl 36 rfl (fun v0 R0 t0 ht0 hp0 => ?_)
                obtain ⟨rfl, rfl⟩ := hp0
                refine q_eqs (st' := [.int (nI (k_at (bx i) j)), .int (nI n2)]) rfl ?_
                refine q_eqR (Rs' := [wP, wQ]) rfl ?_
                have ht33 : k_at (bx i) j < 12 := k_at_lt (hQ.2.1 i (by omega)).2 (by omega)
                refine q_iload_n C dX7_elsewhere_36 37 4 rfl rfl ?_
                refine q_icmp_ne C dX7_elsewhere_37 40 44 rfl (by decide) (nI_eq (by omega) (by omega)) (fun h37 => ?_) (fun h37 => ?_)
                · refine q_iconst (v := nI 0) C dX7_elsewhere_44 45 rfl (by decide) ?_
                  refine q_iadd (v := nI n2) C dX7_elsewhere_45 46 rfl (q_nadd (by omega)) ?_
                  refine q_istore_n C dX7_elsewhere_46 47 rfl [(2, .int (nI n2)), (4, .int (nI j)), (3, .int (nI i)), (0, .ref h0), (1, .int (nI x))] (by decide) rfl ?_
                  refine q_iinc (v := nI (j + 1)) C dX7_elsewhere_47 50 1 rfl rfl (q_ninc1 (by omega)) [(4, .int (nI (j + 1))), (2, .int (nI n2)), (3, .int (nI i)), (0, .ref h0), (1, .int (nI x))] (by decide) rfl ?_
                  refine q_goto C dX7_elsewhere_50 13 (by decide) ?_
                  refine q_sub (L' := [(4, .int (nI (j + 1))), (3, .int (nI i)), (2, .int (nI n2)), (0, .ref h0), (1, .int (nI x))]) [0, 2, 1, 3, 4] rfl ?_
                  exact ih_lp2 (j + 1) n2 (by omega) (by omega) (by omega) (by first | (rw [if_pos (by omega)] at hn2 ⊢; omega) | (rw [if_neg (by omega)] at hn2 ⊢; first | (rw [k_cnt_t (by simp; omega)]; omega) | (rw [k_cnt_f (by simp; omega)]; omega))) (by omega)
                · refine q_iconst (v := nI 1) C dX7_elsewhere_40 41 rfl (by decide) ?_
                  refine q_goto C dX7_elsewhere_41 45 (by decide) ?_
                  refine q_iadd (v := nI (n2 + 1)) C dX7_elsewhere_45 46 rfl (q_nadd (by omega)) ?_
                  refine q_istore_n C dX7_elsewhere_46 47 rfl [(2, .int (nI (n2 + 1))), (4, .int (nI j)), (3, .int (nI i)), (0, .ref h0), (1, .int (nI x))] (by decide) rfl ?_
                  refine q_iinc (v := nI (j + 1)) C dX7_elsewhere_47 50 1 rfl rfl (q_ninc1 (by omega)) [(4, .int (nI (j + 1))), (2, .int (nI (n2 + 1))), (3, .int (nI i)), (0, .ref h0), (1, .int (nI x))] (by decide) rfl ?_
                  refine q_goto C dX7_elsewhere_50 13 (by decide) ?_
                  refine q_sub (L' := [(4, .int (nI (j + 1))), (3, .int (nI i)), (2, .int (nI (n2 + 1))), (0, .ref h0), (1, .int (nI x))]) [0, 2, 1, 3, 4] rfl ?_
                  exact ih_lp2 (j + 1) (n2 + 1) (by omega) (by omega) (by omega) (by first | (rw [if_pos (by omega)] at hn2 ⊢; omega) | (rw [if_neg (by omega)] at hn2 ⊢; first | (rw [k_cnt_t (by simp; omega)]; omega) | (rw [k_cnt_f (by simp; omega)]; omega))) (by omega)
        refine q_sub (L' := [(4, .int (nI 0)), (3, .int (nI i)), (2, .int (nI n)), (0, .ref h0), (1, .int (nI x))]) [0, 1, 2, 3, 4] rfl ?_
        exact lp2 _ 0 n (Nat.lt_succ_self _) (by omega) (by omega) (by rw [k_cnt_0, ← hn]; split <;> rfl) (by omega)
  refine q_sub (L' := [(3, .int (nI 0)), (2, .int (nI 0)), (0, .ref h0), (1, .int (nI x))]) [0, 1, 2, 3] rfl ?_
  exact lp _ 0 0 (Nat.lt_succ_self _) (by omega) rfl (by omega)

set_option maxHeartbeats 400000 in
set_option maxRecDepth 100000 in
theorem c_X7_right (l : Launch) {D : va_G} {tys : List (ClassId × FieldType)} {Z : (Nat → Prop) → State → Heap → Prop} (hZ : q_St Z) {cI : ClassId} (hI : tys[0]? = some (cI, .int)) (h0 : Nat) (aS : Nat) (aZ : Nat) (aV : Nat) (aN : Nat) (aU : Nat) (aD : Nat) (fd : Nat → Int32) (hh : Int64) (wP : va_W) (hP : k_isP cI h0 aS aZ aV aN aU aD fd hh wP) (bx : k_Bx) (at0 : Nat) (ln : List (Nat × Nat)) (sc : Nat → Int32) (wQ : va_W) (hQ : k_isQ cI aS bx at0 ln sc wQ) (b : Nat) (hb : b < 12) : q_Ct l D tys Z yX7_right wsX7_right ({ frames := 2, cells := 0, slots := 0, locals := 72 } : Room) 0 0 [.ref h0, .int (nI b)] [wP, wQ] (fun v0 R0 _ => v0 = some (.int (k_rv (k_rt bx b))) ∧ R0 = [wP, wQ]) := by
  have hcI := hI
  refine q_ct (cc := cX7_right) (maxL := 4) (ret := (some .int)) (own := RX7) (by decide) rfl hZ (Nat.le_of_ble_eq_true rfl) rfl ?_
  intro p9 e9 R s9 m9 args below meth c9 A Q C B
  have hts := C.2.2.2.2.1
  refine q_eqL (L' := [(0, .ref h0), (1, .int (nI b))]) rfl ?_
  refine q_iconst (v := -1) C dX7_right_0 1 rfl (by decide) ?_
  refine q_istore_n C dX7_right_1 2 rfl [(2, .int (-1)), (0, .ref h0), (1, .int (nI b))] (by decide) rfl ?_
  refine q_iconst (v := nI 0) C dX7_right_2 3 rfl (by decide) ?_
  refine q_istore_n C dX7_right_3 4 rfl [(3, .int (nI 0)), (2, .int (-1)), (0, .ref h0), (1, .int (nI b))] (by decide) rfl ?_
  have lp : ∀ (kk : Nat) (i : Nat) (z : Int32), (bx b).length - i < kk → ∀ (hi : i ≤ (bx b).length), ∀ (hz : z = k_rv (k_last (fun i => k_at (bx b) i == b) i)), q_V p9 l e9 R s9 m9 args below meth c9 D A 4 Q 0 0 4 [(3, .int (nI i)), (2, .int z), (0, .ref h0), (1, .int (nI b))] [] [wP, wQ] := by
    intro kk
    induction kk with
    | zero => intro i z hkk; exact absurd hkk (Nat.not_lt_zero _)
    | succ kk ih_lp =>
      intro i z hkk hi hz
      refine q_iload_n C dX7_right_4 5 0 rfl rfl ?_
      refine q_aload_n C dX7_right_5 6 2 rfl rfl ?_
      refine q_iload_n C dX7_right_6 7 3 rfl rfl ?_
      refine q_callV (k := 0) (ci := 6) (n := 1) (rest := [.int (nI i)]) (Rr := []) C rfl (k_isP_recv hP) rfl (c_X7_many_q l hZ hI h0 aS aZ aV aN aU aD fd hh wP hP bx at0 ln sc wQ hQ b (by omega)) gX7_right_X7_many rfl rfl rfl (by decide +kernel) B.1 ⟨Nat.le_of_ble_eq_true rfl, Nat.le_of_ble_eq_true rfl⟩ rfl rfl (Nat.le_of_ble_eq_true rfl) dX7_right_7 ⟨Nat.le_of_ble_eq_true rfl, Nat.le_of_ble_eq_true rfl⟩ [0, 1] [] (by decide : ([0, 1] ++ ([] : List Nat)).Perm (List.range 2)) rfl rfl 10 rfl (fun v0 R0 t0 ht0 hp0 => ?_)
      obtain ⟨rfl, rfl⟩ := hp0
      refine q_eqs (st' := [.int (nI ((bx b).length)), .int (nI i)]) rfl ?_
      refine q_eqR (Rs' := [wP, wQ]) rfl ?_
      have hh7 : (bx b).length ≤ 20 := (hQ.2.1 b (by omega)).1
      refine q_icmp_ge C dX7_right_10 13 35 rfl (by decide) (nI_leI (by omega) (by omega)) (fun h10 => ?_) (fun h10 => ?_)
      · refine q_iload_n C dX7_right_35 36 1 rfl rfl ?_
        exact q_iret C B dX7_right_36 rfl rfl (fun t0 ht0 => ⟨by rw [hz, show i = (bx b).length by omega]; rfl, rfl⟩)
      · refine q_aload_n C dX7_right_13 14 2 rfl rfl ?_
        refine q_iload_n C dX7_right_14 15 3 rfl rfl ?_
        refine q_iload_n C dX7_right_15 16 0 rfl rfl ?_
        refine q_callV (k := 0) (ci := 6) (n := 2) (rest := []) (Rr := []) C rfl (k_isP_recv hP) rfl (c_X7_typeAt_q l hZ hI h0 aS aZ aV aN aU aD fd hh wP hP bx at0 ln sc wQ hQ b i (by omega) (by omega)) gX7_right_X7_typeAt rfl rfl rfl (by decide +kernel) B.1 ⟨Nat.le_of_ble_eq_true rfl, Nat.le_of_ble_eq_true rfl⟩ rfl rfl (Nat.le_of_ble_eq_true rfl) dX7_right_16 ⟨Nat.le_of_ble_eq_true rfl, Nat.le_of_ble_eq_true rfl⟩ [0, 1] [] (by decide : ([0, 1] ++ ([] : List Nat)).Perm (List.range 2)) rfl rfl 19 rfl (fun v0 R0 t0 ht0 hp0 => ?_)
        obtain ⟨rfl, rfl⟩ := hp0
        refine q_eqs (st' := [.int (nI (k_at (bx b) i))]) rfl ?_
        refine q_eqR (Rs' := [wP, wQ]) rfl ?_
        have ht16 : k_at (bx b) i < 12 := k_at_lt (hQ.2.1 b (by omega)).2 (by omega)
        refine q_iload_n C dX7_right_19 20 3 rfl rfl ?_
        refine q_icmp_ne C dX7_right_20 23 27 rfl (by decide) (nI_eq (by omega) (by omega)) (fun h20 => ?_) (fun h20 => ?_)
        · refine q_iload_n C dX7_right_27 28 1 rfl rfl ?_
          refine q_istore_n C dX7_right_28 29 rfl [(2, .int z), (3, .int (nI i)), (0, .ref h0), (1, .int (nI b))] (by decide) rfl ?_
          refine q_iinc (v := nI (i + 1)) C dX7_right_29 32 1 rfl rfl (q_ninc1 (by omega)) [(3, .int (nI (i + 1))), (2, .int z), (0, .ref h0), (1, .int (nI b))] (by decide) rfl ?_
          refine q_goto C dX7_right_32 4 (by decide) ?_
          refine q_sub (L' := [(3, .int (nI (i + 1))), (2, .int z), (0, .ref h0), (1, .int (nI b))]) [0, 1, 2, 3] rfl ?_
          exact ih_lp (i + 1) z (by omega) (by omega) (by first | (rw [k_last_t (by simp; omega)]; rfl) | (rw [k_last_f (by simp; omega)]; exact hz))
        · refine q_iload_n C dX7_right_23 24 0 rfl rfl ?_
          refine q_goto C dX7_right_24 28 (by decide) ?_
          refine q_istore_n C dX7_right_28 29 rfl [(2, .int (nI i)), (3, .int (nI i)), (0, .ref h0), (1, .int (nI b))] (by decide) rfl ?_
          refine q_iinc (v := nI (i + 1)) C dX7_right_29 32 1 rfl rfl (q_ninc1 (by omega)) [(3, .int (nI (i + 1))), (2, .int (nI i)), (0, .ref h0), (1, .int (nI b))] (by decide) rfl ?_
          refine q_goto C dX7_right_32 4 (by decide) ?_
          refine q_sub (L' := [(3, .int (nI (i + 1))), (2, .int (nI i)), (0, .ref h0), (1, .int (nI b))]) [0, 1, 2, 3] rfl ?_
          exact ih_lp (i + 1) (nI i) (by omega) (by omega) (by first | (rw [k_last_t (by simp; omega)]; rfl) | (rw [k_last_f (by simp; omega)]; exact hz))
  refine q_sub (L' := [(3, .int (nI 0)), (2, .int (-1)), (0, .ref h0), (1, .int (nI b))]) [0, 1, 2, 3] rfl ?_
  exact lp _ 0 (-1) (Nat.lt_succ_self _) (by omega) rfl

set_option maxHeartbeats 400000 in
set_option maxRecDepth 100000 in
theorem c_X7_beatsOnce (l : Launch) {D : va_G} {tys : List (ClassId × FieldType)} {Z : (Nat → Prop) → State → Heap → Prop} (hZ : q_St Z) {cI : ClassId} (hI : tys[0]? = some (cI, .int)) (h0 : Nat) (aS : Nat) (aZ : Nat) (aV : Nat) (aN : Nat) (aU : Nat) (aD : Nat) (fd : Nat → Int32) (hh : Int64) (wP : va_W) (hP : k_isP cI h0 aS aZ aV aN aU aD fd hh wP) (bx : k_Bx) (at0 : Nat) (ln : List (Nat × Nat)) (sc : Nat → Int32) (wQ : va_W) (hQ : k_isQ cI aS bx at0 ln sc wQ) : q_Ct l D tys Z yX7_beatsOnce wsX7_beatsOnce ({ frames := 4, cells := 0, slots := 0, locals := 132 } : Room) 0 0 [.ref h0] [wP, wQ] (fun v0 R0 _ => v0 = some (.int (q_b (k_mv bx at0 (sc 3)))) ∧ ∃ wQ', k_isQ cI aS (k_nb bx at0 (sc 3)) (k_na bx at0 (sc 3)) ln (k_bsc sc (k_mv bx at0 (sc 3))) wQ' ∧ R0 = [wP, wQ']) := by
  have hcI := hI
  refine q_ct (cc := cX7_beatsOnce) (maxL := 4) (ret := (some .boolean)) (own := RX7) (by decide) rfl hZ (Nat.le_of_ble_eq_true rfl) rfl ?_
  intro p9 e9 R s9 m9 args below meth c9 A Q C B
  have hts := C.2.2.2.2.1
  have hinX7 : ∀ w ∈ u_ws RX7 TX7 16, w ∈ wsX7_beatsOnce := by decide +kernel
  have f7 := hts (.fieldLink RX7 7 "SortCasesModel" "s" "[I") (by decide +kernel)
  refine q_eqL (L' := [(0, .ref h0)]) rfl ?_
  have hok := hQ.2.1
  have hat := hQ.1
  refine q_aload_n C dX7_beatsOnce_0 1 0 rfl rfl ?_
  obtain rfl := hP
  have hPo1 : k_isP cI h0 aS aZ aV aN aU aD fd hh [(h0, .inr (6, [.int (fd 0), .ref aS, .ref aZ, .ref aV, .int (fd 4), .ref aN, .int (fd 6), .ref aU, .int (fd 8), .int (fd 9), .int (fd 10), .ref aD, .int (fd 12), .int (fd 13), .int (fd 14), .long hh]))] := rfl
  refine q_get (k := 0) (j := 0) (f := 1) C hinX7 f7 (fun _ h => h) (by decide) rfl dX7_beatsOnce_1 4 rfl rfl rfl rfl ?_
  refine q_iconst (v := nI 4) C dX7_beatsOnce_4 5 rfl (by decide) ?_
  obtain ⟨hat2, hok2, hlok2, f2, hm2, rfl⟩ := hQ
  have hll2 := hlok2.1
  have hQo2 : k_isQ cI aS bx at0 ln sc [(aS, .inl (cI, 350, .inl f2))] := ⟨hat2, hok2, hlok2, f2, hm2, rfl⟩
  refine q_iald (k := 1) (j := 0) (v := nI at0) C dX7_beatsOnce_5 6 rfl rfl rfl hcI 4 rfl (by omega) (by decide) (hm2.2.1) ?_
  refine q_istore_n C dX7_beatsOnce_6 7 rfl [(1, .int (nI at0)), (0, .ref h0)] (by decide) rfl ?_
  refine q_aload_n C dX7_beatsOnce_7 8 1 rfl rfl ?_
  refine q_iload_n C dX7_beatsOnce_8 9 0 rfl rfl ?_
  refine q_callV (k := 0) (ci := 6) (n := 1) (rest := []) (Rr := []) C rfl (k_isP_recv hPo1) rfl (c_X7_upmost l hZ hI h0 aS aZ aV aN aU aD fd hh ([(h0, .inr (6, [.int (fd 0), .ref aS, .ref aZ, .ref aV, .int (fd 4), .ref aN, .int (fd 6), .ref aU, .int (fd 8), .int (fd 9), .int (fd 10), .ref aD, .int (fd 12), .int (fd 13), .int (fd 14), .long hh]))]) hPo1 bx at0 ln sc ([(aS, .inl (cI, 350, .inl f2))]) hQo2 at0 (by omega)) gX7_beatsOnce_X7_upmost rfl rfl rfl (by decide +kernel) B.1 ⟨Nat.le_of_ble_eq_true rfl, Nat.le_of_ble_eq_true rfl⟩ rfl rfl (Nat.le_of_ble_eq_true rfl) dX7_beatsOnce_9 ⟨Nat.le_of_ble_eq_true rfl, Nat.le_of_ble_eq_true rfl⟩ [0, 1] [] (by decide : ([0, 1] ++ ([] : List Nat)).Perm (List.range 2)) rfl rfl 12 rfl (fun v0 R0 t0 ht0 hp0 => ?_)
  obtain ⟨rfl, rfl⟩ := hp0
  refine q_eqs (st' := [.int (k_top bx at0 0)]) rfl ?_
  refine q_eqR (Rs' := [[(h0, .inr (6, [.int (fd 0), .ref aS, .ref aZ, .ref aV, .int (fd 4), .ref aN, .int (fd 6), .ref aU, .int (fd 8), .int (fd 9), .int (fd 10), .ref aD, .int (fd 12), .int (fd 13), .int (fd 14), .long hh]))], [(aS, .inl (cI, 350, .inl f2))]]) rfl ?_
  refine q_topi (fun r9 hr9 => ?_)
  rcases Nat.eq_zero_or_pos (bx at0).length with he1 | he1
  · rw [k_top_none (by omega)] at hr9; subst hr9
    refine q_istore_n C dX7_beatsOnce_12 13 rfl [(2, .int (-1)), (1, .int (nI at0)), (0, .ref h0)] (by decide) rfl ?_
    refine q_iload_n C dX7_beatsOnce_13 14 1 rfl rfl ?_
    refine q_aload_n C dX7_beatsOnce_14 15 2 rfl rfl ?_
    refine q_get (k := 0) (j := 0) (f := 1) C hinX7 f7 (fun _ h => h) (by decide) rfl dX7_beatsOnce_15 18 rfl rfl rfl rfl ?_
    refine q_iconst (v := nI 3) C dX7_beatsOnce_18 19 rfl (by decide) ?_
    refine q_iald (k := 1) (j := 0) (v := sc 3) C dX7_beatsOnce_19 20 rfl rfl rfl hcI 3 rfl (by omega) (by decide) (hm2.1 3 (by decide) (by decide)) ?_
    refine q_icmp_eq (P := nI at0 = sc 3) C dX7_beatsOnce_20 23 57 rfl (by decide) Iff.rfl (fun h20 => ?_) (fun h20 => ?_)
    · refine q_iconst (v := nI 0) C dX7_beatsOnce_57 58 rfl (by decide) ?_
      have hmv : k_mv bx at0 (sc 3) = false := by unfold k_mv; exact decide_eq_false (fun hh => by obtain ⟨g1, g2, g3, g4, g5⟩ := hh; first | contradiction | omega)
      refine q_istore_n C dX7_beatsOnce_58 59 rfl [(3, .int (nI 0)), (2, .int (-1)), (1, .int (nI at0)), (0, .ref h0)] (by decide) rfl ?_
      refine q_iload_n C dX7_beatsOnce_59 60 0 rfl rfl ?_
      refine q_if_eq C dX7_beatsOnce_60 63 87 rfl (by decide) (q_eq0 (by omega)) (fun h60 => ?_) (fun h60 => False.elim (by first | omega | simp_all))
      refine q_aload_n C dX7_beatsOnce_87 88 3 rfl rfl ?_
      refine q_get (k := 0) (j := 0) (f := 1) C hinX7 f7 (fun _ h => h) (by decide) rfl dX7_beatsOnce_88 91 rfl rfl rfl rfl ?_
      refine q_iconst (v := nI 4) C dX7_beatsOnce_91 92 rfl (by decide) ?_
      refine q_iload_n C dX7_beatsOnce_92 93 2 rfl rfl ?_
      refine q_iconst (v := nI 1) C dX7_beatsOnce_93 94 rfl (by decide) ?_
      refine q_iadd (v := nI (at0 + 1)) C dX7_beatsOnce_94 95 rfl (q_nadd (by omega)) ?_
      refine q_bipush (v := nI 12) C dX7_beatsOnce_95 97 rfl (by decide) ?_
      refine q_irem (v := nI (((at0 + 1) % 12))) C dX7_beatsOnce_97 98 rfl (q_nz (by omega) (by omega)) (pk_rem (by omega) (by omega) (by omega)) ?_
      refine q_iast (k := 1) (j := 0) C dX7_beatsOnce_98 99 rfl rfl rfl hcI 4 rfl (by omega) (by decide) [[(h0, .inr (6, [.int (fd 0), .ref aS, .ref aZ, .ref aV, .int (fd 4), .ref aN, .int (fd 6), .ref aU, .int (fd 8), .int (fd 9), .int (fd 10), .ref aD, .int (fd 12), .int (fd 13), .int (fd 14), .long hh]))], [(aS, .inl (cI, 350, .inl (upd f2 4 (nI (((at0 + 1) % 12))))))]] rfl ?_
      have hmf3 : k_MR (upd f2 4 (nI (((at0 + 1) % 12)))) bx (((at0 + 1) % 12)) ln sc := k_MR_at hm2
      have haf3 : (((at0 + 1) % 12)) < 12 := (by omega)
      have hQf3 : k_isQ cI aS bx (((at0 + 1) % 12)) ln sc [(aS, .inl (cI, 350, .inl (upd f2 4 (nI (((at0 + 1) % 12))))))] := ⟨haf3, hok2, hlok2, _, hmf3, rfl⟩
      refine q_aload_n C dX7_beatsOnce_99 100 3 rfl rfl ?_
      refine q_get (k := 0) (j := 0) (f := 1) C hinX7 f7 (fun _ h => h) (by decide) rfl dX7_beatsOnce_100 103 rfl rfl rfl rfl ?_
      refine q_bipush (v := nI 7) C dX7_beatsOnce_103 105 rfl (by decide) ?_
      refine q_dup2 C dX7_beatsOnce_105 106 rfl rfl rfl ?_
      refine q_iald (k := 1) (j := 0) (v := sc 7) C dX7_beatsOnce_106 107 rfl rfl rfl hcI 7 rfl (by omega) (by decide) (hmf3.1 7 (by decide) (by decide)) ?_
      refine q_iconst (v := nI 1) C dX7_beatsOnce_107 108 rfl (by decide) ?_
      refine q_iadd (v := (sc 7) + (nI 1)) C dX7_beatsOnce_108 109 rfl rfl ?_
      refine q_iast (k := 1) (j := 0) C dX7_beatsOnce_109 110 rfl rfl rfl hcI 7 rfl (by omega) (by decide) [[(h0, .inr (6, [.int (fd 0), .ref aS, .ref aZ, .ref aV, .int (fd 4), .ref aN, .int (fd 6), .ref aU, .int (fd 8), .int (fd 9), .int (fd 10), .ref aD, .int (fd 12), .int (fd 13), .int (fd 14), .long hh]))], [(aS, .inl (cI, 350, .inl (upd (upd f2 4 (nI (((at0 + 1) % 12)))) 7 ((sc 7) + (nI 1)))))]] rfl ?_
      have hmf4 : k_MR (upd (upd f2 4 (nI (((at0 + 1) % 12)))) 7 ((sc 7) + (nI 1))) bx (((at0 + 1) % 12)) ln (upd sc 7 ((sc 7) + (nI 1))) := k_MR_sc hmf3 (by decide) (by decide)
      have haf4 : (((at0 + 1) % 12)) < 12 := haf3
      have hQf4 : k_isQ cI aS bx (((at0 + 1) % 12)) ln (upd sc 7 ((sc 7) + (nI 1))) [(aS, .inl (cI, 350, .inl (upd (upd f2 4 (nI (((at0 + 1) % 12)))) 7 ((sc 7) + (nI 1)))))] := ⟨haf4, hok2, hlok2, _, hmf4, rfl⟩
      refine q_iload_n C dX7_beatsOnce_110 111 0 rfl rfl ?_
      exact q_zret C B (by decide) dX7_beatsOnce_111 rfl rfl (fun t0 ht0 => ⟨by rw [hmv]; rfl, _, by rw [k_nb, k_na, k_bsc, hmv, if_neg Bool.false_ne_true, if_neg Bool.false_ne_true, if_neg Bool.false_ne_true, k_na_mod hat]; exact hQf4, rfl⟩)
    · refine q_iload_n C dX7_beatsOnce_23 24 0 rfl rfl ?_
      refine q_iconst (v := -1) C dX7_beatsOnce_24 25 rfl (by decide) ?_
      refine q_icmp_eq (P := True) C dX7_beatsOnce_25 28 57 rfl (by decide) ⟨fun _ => trivial, fun _ => rfl⟩ (fun h25 => ?_) (fun h25 => False.elim (by first | omega | simp_all))
      refine q_iconst (v := nI 0) C dX7_beatsOnce_57 58 rfl (by decide) ?_
      have hmv : k_mv bx at0 (sc 3) = false := by unfold k_mv; exact decide_eq_false (fun hh => by obtain ⟨g1, g2, g3, g4, g5⟩ := hh; first | contradiction | omega)
      refine q_istore_n C dX7_beatsOnce_58 59 rfl [(3, .int (nI 0)), (2, .int (-1)), (1, .int (nI at0)), (0, .ref h0)] (by decide) rfl ?_
      refine q_iload_n C dX7_beatsOnce_59 60 0 rfl rfl ?_
      refine q_if_eq C dX7_beatsOnce_60 63 87 rfl (by decide) (q_eq0 (by omega)) (fun h60 => ?_) (fun h60 => False.elim (by first | omega | simp_all))
      refine q_aload_n C dX7_beatsOnce_87 88 3 rfl rfl ?_
      refine q_get (k := 0) (j := 0) (f := 1) C hinX7 f7 (fun _ h => h) (by decide) rfl dX7_beatsOnce_88 91 rfl rfl rfl rfl ?_
      refine q_iconst (v := nI 4) C dX7_beatsOnce_91 92 rfl (by decide) ?_
      refine q_iload_n C dX7_beatsOnce_92 93 2 rfl rfl ?_
      refine q_iconst (v := nI 1) C dX7_beatsOnce_93 94 rfl (by decide) ?_
      refine q_iadd (v := nI (at0 + 1)) C dX7_beatsOnce_94 95 rfl (q_nadd (by omega)) ?_
      refine q_bipush (v := nI 12) C dX7_beatsOnce_95 97 rfl (by decide) ?_
      refine q_irem (v := nI (((at0 + 1) % 12))) C dX7_beatsOnce_97 98 rfl (q_nz (by omega) (by omega)) (pk_rem (by omega) (by omega) (by omega)) ?_
      refine q_iast (k := 1) (j := 0) C dX7_beatsOnce_98 99 rfl rfl rfl hcI 4 rfl (by omega) (by decide) [[(h0, .inr (6, [.int (fd 0), .ref aS, .ref aZ, .ref aV, .int (fd 4), .ref aN, .int (fd 6), .ref aU, .int (fd 8), .int (fd 9), .int (fd 10), .ref aD, .int (fd 12), .int (fd 13), .int (fd 14), .long hh]))], [(aS, .inl (cI, 350, .inl (upd f2 4 (nI (((at0 + 1) % 12))))))]] rfl ?_
      have hmf5 : k_MR (upd f2 4 (nI (((at0 + 1) % 12)))) bx (((at0 + 1) % 12)) ln sc := k_MR_at hm2
      have haf5 : (((at0 + 1) % 12)) < 12 := (by omega)
      have hQf5 : k_isQ cI aS bx (((at0 + 1) % 12)) ln sc [(aS, .inl (cI, 350, .inl (upd f2 4 (nI (((at0 + 1) % 12))))))] := ⟨haf5, hok2, hlok2, _, hmf5, rfl⟩
      refine q_aload_n C dX7_beatsOnce_99 100 3 rfl rfl ?_
      refine q_get (k := 0) (j := 0) (f := 1) C hinX7 f7 (fun _ h => h) (by decide) rfl dX7_beatsOnce_100 103 rfl rfl rfl rfl ?_
      refine q_bipush (v := nI 7) C dX7_beatsOnce_103 105 rfl (by decide) ?_
      refine q_dup2 C dX7_beatsOnce_105 106 rfl rfl rfl ?_
      refine q_iald (k := 1) (j := 0) (v := sc 7) C dX7_beatsOnce_106 107 rfl rfl rfl hcI 7 rfl (by omega) (by decide) (hmf5.1 7 (by decide) (by decide)) ?_
      refine q_iconst (v := nI 1) C dX7_beatsOnce_107 108 rfl (by decide) ?_
      refine q_iadd (v := (sc 7) + (nI 1)) C dX7_beatsOnce_108 109 rfl rfl ?_
      refine q_iast (k := 1) (j := 0) C dX7_beatsOnce_109 110 rfl rfl rfl hcI 7 rfl (by omega) (by decide) [[(h0, .inr (6, [.int (fd 0), .ref aS, .ref aZ, .ref aV, .int (fd 4), .ref aN, .int (fd 6), .ref aU, .int (fd 8), .int (fd 9), .int (fd 10), .ref aD, .int (fd 12), .int (fd 13), .int (fd 14), .long hh]))], [(aS, .inl (cI, 350, .inl (upd (upd f2 4 (nI (((at0 + 1) % 12)))) 7 ((sc 7) + (nI 1)))))]] rfl ?_
      have hmf6 : k_MR (upd (upd f2 4 (nI (((at0 + 1) % 12)))) 7 ((sc 7) + (nI 1))) bx (((at0 + 1) % 12)) ln (upd sc 7 ((sc 7) + (nI 1))) := k_MR_sc hmf5 (by decide) (by decide)
      have haf6 : (((at0 + 1) % 12)) < 12 := haf5
      have hQf6 : k_isQ cI aS bx (((at0 + 1) % 12)) ln (upd sc 7 ((sc 7) + (nI 1))) [(aS, .inl (cI, 350, .inl (upd (upd f2 4 (nI (((at0 + 1) % 12)))) 7 ((sc 7) + (nI 1)))))] := ⟨haf6, hok2, hlok2, _, hmf6, rfl⟩
      refine q_iload_n C dX7_beatsOnce_110 111 0 rfl rfl ?_
      exact q_zret C B (by decide) dX7_beatsOnce_111 rfl rfl (fun t0 ht0 => ⟨by rw [hmv]; rfl, _, by rw [k_nb, k_na, k_bsc, hmv, if_neg Bool.false_ne_true, if_neg Bool.false_ne_true, if_neg Bool.false_ne_true, k_na_mod hat]; exact hQf6, rfl⟩)
  · have hx1 : r9 = nI (k_x bx at0) := hr9.trans (k_top_some he1)
    have hxl1 := k_x_lt hok (by omega) he1
    obtain ⟨x, ex1⟩ : ∃ x, x = k_x bx at0 := ⟨_, rfl⟩
    rw [← ex1] at hx1 hxl1
    subst hx1
    refine q_istore_n C dX7_beatsOnce_12 13 rfl [(2, .int (nI x)), (1, .int (nI at0)), (0, .ref h0)] (by decide) rfl ?_
    refine q_iload_n C dX7_beatsOnce_13 14 1 rfl rfl ?_
    refine q_aload_n C dX7_beatsOnce_14 15 2 rfl rfl ?_
    refine q_get (k := 0) (j := 0) (f := 1) C hinX7 f7 (fun _ h => h) (by decide) rfl dX7_beatsOnce_15 18 rfl rfl rfl rfl ?_
    refine q_iconst (v := nI 3) C dX7_beatsOnce_18 19 rfl (by decide) ?_
    refine q_iald (k := 1) (j := 0) (v := sc 3) C dX7_beatsOnce_19 20 rfl rfl rfl hcI 3 rfl (by omega) (by decide) (hm2.1 3 (by decide) (by decide)) ?_
    refine q_icmp_eq (P := nI at0 = sc 3) C dX7_beatsOnce_20 23 57 rfl (by decide) Iff.rfl (fun h20 => ?_) (fun h20 => ?_)
    · refine q_iconst (v := nI 0) C dX7_beatsOnce_57 58 rfl (by decide) ?_
      have hmv : k_mv bx at0 (sc 3) = false := by unfold k_mv; rw [← ex1]; exact decide_eq_false (fun hh => by obtain ⟨g1, g2, g3, g4, g5⟩ := hh; first | contradiction | omega)
      refine q_istore_n C dX7_beatsOnce_58 59 rfl [(3, .int (nI 0)), (2, .int (nI x)), (1, .int (nI at0)), (0, .ref h0)] (by decide) rfl ?_
      refine q_iload_n C dX7_beatsOnce_59 60 0 rfl rfl ?_
      refine q_if_eq C dX7_beatsOnce_60 63 87 rfl (by decide) (q_eq0 (by omega)) (fun h60 => ?_) (fun h60 => False.elim (by first | omega | simp_all))
      refine q_aload_n C dX7_beatsOnce_87 88 3 rfl rfl ?_
      refine q_get (k := 0) (j := 0) (f := 1) C hinX7 f7 (fun _ h => h) (by decide) rfl dX7_beatsOnce_88 91 rfl rfl rfl rfl ?_
      refine q_iconst (v := nI 4) C dX7_beatsOnce_91 92 rfl (by decide) ?_
      refine q_iload_n C dX7_beatsOnce_92 93 2 rfl rfl ?_
      refine q_iconst (v := nI 1) C dX7_beatsOnce_93 94 rfl (by decide) ?_
      refine q_iadd (v := nI (at0 + 1)) C dX7_beatsOnce_94 95 rfl (q_nadd (by omega)) ?_
      refine q_bipush (v := nI 12) C dX7_beatsOnce_95 97 rfl (by decide) ?_
      refine q_irem (v := nI (((at0 + 1) % 12))) C dX7_beatsOnce_97 98 rfl (q_nz (by omega) (by omega)) (pk_rem (by omega) (by omega) (by omega)) ?_
      refine q_iast (k := 1) (j := 0) C dX7_beatsOnce_98 99 rfl rfl rfl hcI 4 rfl (by omega) (by decide) [[(h0, .inr (6, [.int (fd 0), .ref aS, .ref aZ, .ref aV, .int (fd 4), .ref aN, .int (fd 6), .ref aU, .int (fd 8), .int (fd 9), .int (fd 10), .ref aD, .int (fd 12), .int (fd 13), .int (fd 14), .long hh]))], [(aS, .inl (cI, 350, .inl (upd f2 4 (nI (((at0 + 1) % 12))))))]] rfl ?_
      have hmf7 : k_MR (upd f2 4 (nI (((at0 + 1) % 12)))) bx (((at0 + 1) % 12)) ln sc := k_MR_at hm2
      have haf7 : (((at0 + 1) % 12)) < 12 := (by omega)
      have hQf7 : k_isQ cI aS bx (((at0 + 1) % 12)) ln sc [(aS, .inl (cI, 350, .inl (upd f2 4 (nI (((at0 + 1) % 12))))))] := ⟨haf7, hok2, hlok2, _, hmf7, rfl⟩
      refine q_aload_n C dX7_beatsOnce_99 100 3 rfl rfl ?_
      refine q_get (k := 0) (j := 0) (f := 1) C hinX7 f7 (fun _ h => h) (by decide) rfl dX7_beatsOnce_100 103 rfl rfl rfl rfl ?_
      refine q_bipush (v := nI 7) C dX7_beatsOnce_103 105 rfl (by decide) ?_
      refine q_dup2 C dX7_beatsOnce_105 106 rfl rfl rfl ?_
      refine q_iald (k := 1) (j := 0) (v := sc 7) C dX7_beatsOnce_106 107 rfl rfl rfl hcI 7 rfl (by omega) (by decide) (hmf7.1 7 (by decide) (by decide)) ?_
      refine q_iconst (v := nI 1) C dX7_beatsOnce_107 108 rfl (by decide) ?_
      refine q_iadd (v := (sc 7) + (nI 1)) C dX7_beatsOnce_108 109 rfl rfl ?_
      refine q_iast (k := 1) (j := 0) C dX7_beatsOnce_109 110 rfl rfl rfl hcI 7 rfl (by omega) (by decide) [[(h0, .inr (6, [.int (fd 0), .ref aS, .ref aZ, .ref aV, .int (fd 4), .ref aN, .int (fd 6), .ref aU, .int (fd 8), .int (fd 9), .int (fd 10), .ref aD, .int (fd 12), .int (fd 13), .int (fd 14), .long hh]))], [(aS, .inl (cI, 350, .inl (upd (upd f2 4 (nI (((at0 + 1) % 12)))) 7 ((sc 7) + (nI 1)))))]] rfl ?_
      have hmf8 : k_MR (upd (upd f2 4 (nI (((at0 + 1) % 12)))) 7 ((sc 7) + (nI 1))) bx (((at0 + 1) % 12)) ln (upd sc 7 ((sc 7) + (nI 1))) := k_MR_sc hmf7 (by decide) (by decide)
      have haf8 : (((at0 + 1) % 12)) < 12 := haf7
      have hQf8 : k_isQ cI aS bx (((at0 + 1) % 12)) ln (upd sc 7 ((sc 7) + (nI 1))) [(aS, .inl (cI, 350, .inl (upd (upd f2 4 (nI (((at0 + 1) % 12)))) 7 ((sc 7) + (nI 1)))))] := ⟨haf8, hok2, hlok2, _, hmf8, rfl⟩
      refine q_iload_n C dX7_beatsOnce_110 111 0 rfl rfl ?_
      exact q_zret C B (by decide) dX7_beatsOnce_111 rfl rfl (fun t0 ht0 => ⟨by rw [hmv]; rfl, _, by rw [k_nb, k_na, k_bsc, hmv, if_neg Bool.false_ne_true, if_neg Bool.false_ne_true, if_neg Bool.false_ne_true, k_na_mod hat]; exact hQf8, rfl⟩)
    · refine q_iload_n C dX7_beatsOnce_23 24 0 rfl rfl ?_
      refine q_iconst (v := -1) C dX7_beatsOnce_24 25 rfl (by decide) ?_
      refine q_icmp_eq (P := False) C dX7_beatsOnce_25 28 57 rfl (by decide) (q_m1 (by omega)) (fun h25 => False.elim (by first | omega | simp_all)) (fun h25 => ?_)
      refine q_iload_n C dX7_beatsOnce_28 29 0 rfl rfl ?_
      refine q_iload_n C dX7_beatsOnce_29 30 1 rfl rfl ?_
      refine q_icmp_eq C dX7_beatsOnce_30 33 57 rfl (by decide) (nI_eq (by omega) (by omega)) (fun h30 => ?_) (fun h30 => ?_)
      · refine q_iconst (v := nI 0) C dX7_beatsOnce_57 58 rfl (by decide) ?_
        have hmv : k_mv bx at0 (sc 3) = false := by unfold k_mv; rw [← ex1]; exact decide_eq_false (fun hh => by obtain ⟨g1, g2, g3, g4, g5⟩ := hh; first | contradiction | omega)
        refine q_istore_n C dX7_beatsOnce_58 59 rfl [(3, .int (nI 0)), (2, .int (nI x)), (1, .int (nI at0)), (0, .ref h0)] (by decide) rfl ?_
        refine q_iload_n C dX7_beatsOnce_59 60 0 rfl rfl ?_
        refine q_if_eq C dX7_beatsOnce_60 63 87 rfl (by decide) (q_eq0 (by omega)) (fun h60 => ?_) (fun h60 => False.elim (by first | omega | simp_all))
        refine q_aload_n C dX7_beatsOnce_87 88 3 rfl rfl ?_
        refine q_get (k := 0) (j := 0) (f := 1) C hinX7 f7 (fun _ h => h) (by decide) rfl dX7_beatsOnce_88 91 rfl rfl rfl rfl ?_
        refine q_iconst (v := nI 4) C dX7_beatsOnce_91 92 rfl (by decide) ?_
        refine q_iload_n C dX7_beatsOnce_92 93 2 rfl rfl ?_
        refine q_iconst (v := nI 1) C dX7_beatsOnce_93 94 rfl (by decide) ?_
        refine q_iadd (v := nI (at0 + 1)) C dX7_beatsOnce_94 95 rfl (q_nadd (by omega)) ?_
        refine q_bipush (v := nI 12) C dX7_beatsOnce_95 97 rfl (by decide) ?_
        refine q_irem (v := nI (((at0 + 1) % 12))) C dX7_beatsOnce_97 98 rfl (q_nz (by omega) (by omega)) (pk_rem (by omega) (by omega) (by omega)) ?_
        refine q_iast (k := 1) (j := 0) C dX7_beatsOnce_98 99 rfl rfl rfl hcI 4 rfl (by omega) (by decide) [[(h0, .inr (6, [.int (fd 0), .ref aS, .ref aZ, .ref aV, .int (fd 4), .ref aN, .int (fd 6), .ref aU, .int (fd 8), .int (fd 9), .int (fd 10), .ref aD, .int (fd 12), .int (fd 13), .int (fd 14), .long hh]))], [(aS, .inl (cI, 350, .inl (upd f2 4 (nI (((at0 + 1) % 12))))))]] rfl ?_
        have hmf9 : k_MR (upd f2 4 (nI (((at0 + 1) % 12)))) bx (((at0 + 1) % 12)) ln sc := k_MR_at hm2
        have haf9 : (((at0 + 1) % 12)) < 12 := (by omega)
        have hQf9 : k_isQ cI aS bx (((at0 + 1) % 12)) ln sc [(aS, .inl (cI, 350, .inl (upd f2 4 (nI (((at0 + 1) % 12))))))] := ⟨haf9, hok2, hlok2, _, hmf9, rfl⟩
        refine q_aload_n C dX7_beatsOnce_99 100 3 rfl rfl ?_
        refine q_get (k := 0) (j := 0) (f := 1) C hinX7 f7 (fun _ h => h) (by decide) rfl dX7_beatsOnce_100 103 rfl rfl rfl rfl ?_
        refine q_bipush (v := nI 7) C dX7_beatsOnce_103 105 rfl (by decide) ?_
        refine q_dup2 C dX7_beatsOnce_105 106 rfl rfl rfl ?_
        refine q_iald (k := 1) (j := 0) (v := sc 7) C dX7_beatsOnce_106 107 rfl rfl rfl hcI 7 rfl (by omega) (by decide) (hmf9.1 7 (by decide) (by decide)) ?_
        refine q_iconst (v := nI 1) C dX7_beatsOnce_107 108 rfl (by decide) ?_
        refine q_iadd (v := (sc 7) + (nI 1)) C dX7_beatsOnce_108 109 rfl rfl ?_
        refine q_iast (k := 1) (j := 0) C dX7_beatsOnce_109 110 rfl rfl rfl hcI 7 rfl (by omega) (by decide) [[(h0, .inr (6, [.int (fd 0), .ref aS, .ref aZ, .ref aV, .int (fd 4), .ref aN, .int (fd 6), .ref aU, .int (fd 8), .int (fd 9), .int (fd 10), .ref aD, .int (fd 12), .int (fd 13), .int (fd 14), .long hh]))], [(aS, .inl (cI, 350, .inl (upd (upd f2 4 (nI (((at0 + 1) % 12)))) 7 ((sc 7) + (nI 1)))))]] rfl ?_
        have hmf10 : k_MR (upd (upd f2 4 (nI (((at0 + 1) % 12)))) 7 ((sc 7) + (nI 1))) bx (((at0 + 1) % 12)) ln (upd sc 7 ((sc 7) + (nI 1))) := k_MR_sc hmf9 (by decide) (by decide)
        have haf10 : (((at0 + 1) % 12)) < 12 := haf9
        have hQf10 : k_isQ cI aS bx (((at0 + 1) % 12)) ln (upd sc 7 ((sc 7) + (nI 1))) [(aS, .inl (cI, 350, .inl (upd (upd f2 4 (nI (((at0 + 1) % 12)))) 7 ((sc 7) + (nI 1)))))] := ⟨haf10, hok2, hlok2, _, hmf10, rfl⟩
        refine q_iload_n C dX7_beatsOnce_110 111 0 rfl rfl ?_
        exact q_zret C B (by decide) dX7_beatsOnce_111 rfl rfl (fun t0 ht0 => ⟨by rw [hmv]; rfl, _, by rw [k_nb, k_na, k_bsc, hmv, if_neg Bool.false_ne_true, if_neg Bool.false_ne_true, if_neg Bool.false_ne_true, k_na_mod hat]; exact hQf10, rfl⟩)
      · refine q_iload_n C dX7_beatsOnce_33 34 0 rfl rfl ?_
        refine q_aload_n C dX7_beatsOnce_34 35 2 rfl rfl ?_
        refine q_get (k := 0) (j := 0) (f := 1) C hinX7 f7 (fun _ h => h) (by decide) rfl dX7_beatsOnce_35 38 rfl rfl rfl rfl ?_
        refine q_iconst (v := nI 3) C dX7_beatsOnce_38 39 rfl (by decide) ?_
        refine q_iald (k := 1) (j := 0) (v := sc 3) C dX7_beatsOnce_39 40 rfl rfl rfl hcI 3 rfl (by omega) (by decide) (hm2.1 3 (by decide) (by decide)) ?_
        refine q_icmp_eq C dX7_beatsOnce_40 43 57 rfl (by decide) Iff.rfl (fun h40 => ?_) (fun h40 => ?_)
        · refine q_iconst (v := nI 0) C dX7_beatsOnce_57 58 rfl (by decide) ?_
          have hmv : k_mv bx at0 (sc 3) = false := by unfold k_mv; rw [← ex1]; exact decide_eq_false (fun hh => by obtain ⟨g1, g2, g3, g4, g5⟩ := hh; first | contradiction | omega)
          refine q_istore_n C dX7_beatsOnce_58 59 rfl [(3, .int (nI 0)), (2, .int (nI x)), (1, .int (nI at0)), (0, .ref h0)] (by decide) rfl ?_
          refine q_iload_n C dX7_beatsOnce_59 60 0 rfl rfl ?_
          refine q_if_eq C dX7_beatsOnce_60 63 87 rfl (by decide) (q_eq0 (by omega)) (fun h60 => ?_) (fun h60 => False.elim (by first | omega | simp_all))
          refine q_aload_n C dX7_beatsOnce_87 88 3 rfl rfl ?_
          refine q_get (k := 0) (j := 0) (f := 1) C hinX7 f7 (fun _ h => h) (by decide) rfl dX7_beatsOnce_88 91 rfl rfl rfl rfl ?_
          refine q_iconst (v := nI 4) C dX7_beatsOnce_91 92 rfl (by decide) ?_
          refine q_iload_n C dX7_beatsOnce_92 93 2 rfl rfl ?_
          refine q_iconst (v := nI 1) C dX7_beatsOnce_93 94 rfl (by decide) ?_
          refine q_iadd (v := nI (at0 + 1)) C dX7_beatsOnce_94 95 rfl (q_nadd (by omega)) ?_
          refine q_bipush (v := nI 12) C dX7_beatsOnce_95 97 rfl (by decide) ?_
          refine q_irem (v := nI (((at0 + 1) % 12))) C dX7_beatsOnce_97 98 rfl (q_nz (by omega) (by omega)) (pk_rem (by omega) (by omega) (by omega)) ?_
          refine q_iast (k := 1) (j := 0) C dX7_beatsOnce_98 99 rfl rfl rfl hcI 4 rfl (by omega) (by decide) [[(h0, .inr (6, [.int (fd 0), .ref aS, .ref aZ, .ref aV, .int (fd 4), .ref aN, .int (fd 6), .ref aU, .int (fd 8), .int (fd 9), .int (fd 10), .ref aD, .int (fd 12), .int (fd 13), .int (fd 14), .long hh]))], [(aS, .inl (cI, 350, .inl (upd f2 4 (nI (((at0 + 1) % 12))))))]] rfl ?_
          have hmf11 : k_MR (upd f2 4 (nI (((at0 + 1) % 12)))) bx (((at0 + 1) % 12)) ln sc := k_MR_at hm2
          have haf11 : (((at0 + 1) % 12)) < 12 := (by omega)
          have hQf11 : k_isQ cI aS bx (((at0 + 1) % 12)) ln sc [(aS, .inl (cI, 350, .inl (upd f2 4 (nI (((at0 + 1) % 12))))))] := ⟨haf11, hok2, hlok2, _, hmf11, rfl⟩
          refine q_aload_n C dX7_beatsOnce_99 100 3 rfl rfl ?_
          refine q_get (k := 0) (j := 0) (f := 1) C hinX7 f7 (fun _ h => h) (by decide) rfl dX7_beatsOnce_100 103 rfl rfl rfl rfl ?_
          refine q_bipush (v := nI 7) C dX7_beatsOnce_103 105 rfl (by decide) ?_
          refine q_dup2 C dX7_beatsOnce_105 106 rfl rfl rfl ?_
          refine q_iald (k := 1) (j := 0) (v := sc 7) C dX7_beatsOnce_106 107 rfl rfl rfl hcI 7 rfl (by omega) (by decide) (hmf11.1 7 (by decide) (by decide)) ?_
          refine q_iconst (v := nI 1) C dX7_beatsOnce_107 108 rfl (by decide) ?_
          refine q_iadd (v := (sc 7) + (nI 1)) C dX7_beatsOnce_108 109 rfl rfl ?_
          refine q_iast (k := 1) (j := 0) C dX7_beatsOnce_109 110 rfl rfl rfl hcI 7 rfl (by omega) (by decide) [[(h0, .inr (6, [.int (fd 0), .ref aS, .ref aZ, .ref aV, .int (fd 4), .ref aN, .int (fd 6), .ref aU, .int (fd 8), .int (fd 9), .int (fd 10), .ref aD, .int (fd 12), .int (fd 13), .int (fd 14), .long hh]))], [(aS, .inl (cI, 350, .inl (upd (upd f2 4 (nI (((at0 + 1) % 12)))) 7 ((sc 7) + (nI 1)))))]] rfl ?_
          have hmf12 : k_MR (upd (upd f2 4 (nI (((at0 + 1) % 12)))) 7 ((sc 7) + (nI 1))) bx (((at0 + 1) % 12)) ln (upd sc 7 ((sc 7) + (nI 1))) := k_MR_sc hmf11 (by decide) (by decide)
          have haf12 : (((at0 + 1) % 12)) < 12 := haf11
          have hQf12 : k_isQ cI aS bx (((at0 + 1) % 12)) ln (upd sc 7 ((sc 7) + (nI 1))) [(aS, .inl (cI, 350, .inl (upd (upd f2 4 (nI (((at0 + 1) % 12)))) 7 ((sc 7) + (nI 1)))))] := ⟨haf12, hok2, hlok2, _, hmf12, rfl⟩
          refine q_iload_n C dX7_beatsOnce_110 111 0 rfl rfl ?_
          exact q_zret C B (by decide) dX7_beatsOnce_111 rfl rfl (fun t0 ht0 => ⟨by rw [hmv]; rfl, _, by rw [k_nb, k_na, k_bsc, hmv, if_neg Bool.false_ne_true, if_neg Bool.false_ne_true, if_neg Bool.false_ne_true, k_na_mod hat]; exact hQf12, rfl⟩)
        · refine q_aload_n C dX7_beatsOnce_43 44 2 rfl rfl ?_
          refine q_iload_n C dX7_beatsOnce_44 45 0 rfl rfl ?_
          refine q_callV (k := 0) (ci := 6) (n := 1) (rest := []) (Rr := []) C rfl (k_isP_recv hPo1) rfl (c_X7_many_q l hZ hI h0 aS aZ aV aN aU aD fd hh ([(h0, .inr (6, [.int (fd 0), .ref aS, .ref aZ, .ref aV, .int (fd 4), .ref aN, .int (fd 6), .ref aU, .int (fd 8), .int (fd 9), .int (fd 10), .ref aD, .int (fd 12), .int (fd 13), .int (fd 14), .long hh]))]) hPo1 bx at0 ln sc ([(aS, .inl (cI, 350, .inl f2))]) hQo2 x (by omega)) gX7_beatsOnce_X7_many rfl rfl rfl (by decide +kernel) B.1 ⟨Nat.le_of_ble_eq_true rfl, Nat.le_of_ble_eq_true rfl⟩ rfl rfl (Nat.le_of_ble_eq_true rfl) dX7_beatsOnce_45 ⟨Nat.le_of_ble_eq_true rfl, Nat.le_of_ble_eq_true rfl⟩ [0, 1] [] (by decide : ([0, 1] ++ ([] : List Nat)).Perm (List.range 2)) rfl rfl 48 rfl (fun v0 R0 t0 ht0 hp0 => ?_)
          obtain ⟨rfl, rfl⟩ := hp0
          refine q_eqs (st' := [.int (nI ((bx x).length))]) rfl ?_
          refine q_eqR (Rs' := [[(h0, .inr (6, [.int (fd 0), .ref aS, .ref aZ, .ref aV, .int (fd 4), .ref aN, .int (fd 6), .ref aU, .int (fd 8), .int (fd 9), .int (fd 10), .ref aD, .int (fd 12), .int (fd 13), .int (fd 14), .long hh]))], [(aS, .inl (cI, 350, .inl f2))]]) rfl ?_
          have hh45 : (bx x).length ≤ 20 := (hQo2.2.1 x (by omega)).1
          refine q_bipush (v := nI 20) C dX7_beatsOnce_48 50 rfl (by decide) ?_
          refine q_icmp_ge C dX7_beatsOnce_50 53 57 rfl (by decide) (nI_leI (by omega) (by omega)) (fun h50 => ?_) (fun h50 => ?_)
          · refine q_iconst (v := nI 0) C dX7_beatsOnce_57 58 rfl (by decide) ?_
            have hmv : k_mv bx at0 (sc 3) = false := by unfold k_mv; rw [← ex1]; exact decide_eq_false (fun hh => by obtain ⟨g1, g2, g3, g4, g5⟩ := hh; first | contradiction | omega)
            refine q_istore_n C dX7_beatsOnce_58 59 rfl [(3, .int (nI 0)), (2, .int (nI x)), (1, .int (nI at0)), (0, .ref h0)] (by decide) rfl ?_
            refine q_iload_n C dX7_beatsOnce_59 60 0 rfl rfl ?_
            refine q_if_eq C dX7_beatsOnce_60 63 87 rfl (by decide) (q_eq0 (by omega)) (fun h60 => ?_) (fun h60 => False.elim (by first | omega | simp_all))
            refine q_aload_n C dX7_beatsOnce_87 88 3 rfl rfl ?_
            refine q_get (k := 0) (j := 0) (f := 1) C hinX7 f7 (fun _ h => h) (by decide) rfl dX7_beatsOnce_88 91 rfl rfl rfl rfl ?_
            refine q_iconst (v := nI 4) C dX7_beatsOnce_91 92 rfl (by decide) ?_
            refine q_iload_n C dX7_beatsOnce_92 93 2 rfl rfl ?_
            refine q_iconst (v := nI 1) C dX7_beatsOnce_93 94 rfl (by decide) ?_
            refine q_iadd (v := nI (at0 + 1)) C dX7_beatsOnce_94 95 rfl (q_nadd (by omega)) ?_
            refine q_bipush (v := nI 12) C dX7_beatsOnce_95 97 rfl (by decide) ?_
            refine q_irem (v := nI (((at0 + 1) % 12))) C dX7_beatsOnce_97 98 rfl (q_nz (by omega) (by omega)) (pk_rem (by omega) (by omega) (by omega)) ?_
            refine q_iast (k := 1) (j := 0) C dX7_beatsOnce_98 99 rfl rfl rfl hcI 4 rfl (by omega) (by decide) [[(h0, .inr (6, [.int (fd 0), .ref aS, .ref aZ, .ref aV, .int (fd 4), .ref aN, .int (fd 6), .ref aU, .int (fd 8), .int (fd 9), .int (fd 10), .ref aD, .int (fd 12), .int (fd 13), .int (fd 14), .long hh]))], [(aS, .inl (cI, 350, .inl (upd f2 4 (nI (((at0 + 1) % 12))))))]] rfl ?_
            have hmf13 : k_MR (upd f2 4 (nI (((at0 + 1) % 12)))) bx (((at0 + 1) % 12)) ln sc := k_MR_at hm2
            have haf13 : (((at0 + 1) % 12)) < 12 := (by omega)
            have hQf13 : k_isQ cI aS bx (((at0 + 1) % 12)) ln sc [(aS, .inl (cI, 350, .inl (upd f2 4 (nI (((at0 + 1) % 12))))))] := ⟨haf13, hok2, hlok2, _, hmf13, rfl⟩
            refine q_aload_n C dX7_beatsOnce_99 100 3 rfl rfl ?_
            refine q_get (k := 0) (j := 0) (f := 1) C hinX7 f7 (fun _ h => h) (by decide) rfl dX7_beatsOnce_100 103 rfl rfl rfl rfl ?_
            refine q_bipush (v := nI 7) C dX7_beatsOnce_103 105 rfl (by decide) ?_
            refine q_dup2 C dX7_beatsOnce_105 106 rfl rfl rfl ?_
            refine q_iald (k := 1) (j := 0) (v := sc 7) C dX7_beatsOnce_106 107 rfl rfl rfl hcI 7 rfl (by omega) (by decide) (hmf13.1 7 (by decide) (by decide)) ?_
            refine q_iconst (v := nI 1) C dX7_beatsOnce_107 108 rfl (by decide) ?_
            refine q_iadd (v := (sc 7) + (nI 1)) C dX7_beatsOnce_108 109 rfl rfl ?_
            refine q_iast (k := 1) (j := 0) C dX7_beatsOnce_109 110 rfl rfl rfl hcI 7 rfl (by omega) (by decide) [[(h0, .inr (6, [.int (fd 0), .ref aS, .ref aZ, .ref aV, .int (fd 4), .ref aN, .int (fd 6), .ref aU, .int (fd 8), .int (fd 9), .int (fd 10), .ref aD, .int (fd 12), .int (fd 13), .int (fd 14), .long hh]))], [(aS, .inl (cI, 350, .inl (upd (upd f2 4 (nI (((at0 + 1) % 12)))) 7 ((sc 7) + (nI 1)))))]] rfl ?_
            have hmf14 : k_MR (upd (upd f2 4 (nI (((at0 + 1) % 12)))) 7 ((sc 7) + (nI 1))) bx (((at0 + 1) % 12)) ln (upd sc 7 ((sc 7) + (nI 1))) := k_MR_sc hmf13 (by decide) (by decide)
            have haf14 : (((at0 + 1) % 12)) < 12 := haf13
            have hQf14 : k_isQ cI aS bx (((at0 + 1) % 12)) ln (upd sc 7 ((sc 7) + (nI 1))) [(aS, .inl (cI, 350, .inl (upd (upd f2 4 (nI (((at0 + 1) % 12)))) 7 ((sc 7) + (nI 1)))))] := ⟨haf14, hok2, hlok2, _, hmf14, rfl⟩
            refine q_iload_n C dX7_beatsOnce_110 111 0 rfl rfl ?_
            exact q_zret C B (by decide) dX7_beatsOnce_111 rfl rfl (fun t0 ht0 => ⟨by rw [hmv]; rfl, _, by rw [k_nb, k_na, k_bsc, hmv, if_neg Bool.false_ne_true, if_neg Bool.false_ne_true, if_neg Bool.false_ne_true, k_na_mod hat]; exact hQf14, rfl⟩)
          · refine q_iconst (v := nI 1) C dX7_beatsOnce_53 54 rfl (by decide) ?_
            refine q_goto C dX7_beatsOnce_54 58 (by decide) ?_
            have hmv : k_mv bx at0 (sc 3) = true := by unfold k_mv; rw [← ex1]; exact decide_eq_true ⟨he1, by omega, h20, h40, by omega⟩
            refine q_istore_n C dX7_beatsOnce_58 59 rfl [(3, .int (nI 1)), (2, .int (nI x)), (1, .int (nI at0)), (0, .ref h0)] (by decide) rfl ?_
            refine q_iload_n C dX7_beatsOnce_59 60 0 rfl rfl ?_
            refine q_if_eq C dX7_beatsOnce_60 63 87 rfl (by decide) (q_eq0 (by omega)) (fun h60 => False.elim (by first | omega | simp_all)) (fun h60 => ?_)
            refine q_aload_n C dX7_beatsOnce_63 64 3 rfl rfl ?_
            refine q_iload_n C dX7_beatsOnce_64 65 1 rfl rfl ?_
            refine q_aload_n C dX7_beatsOnce_65 66 3 rfl rfl ?_
            refine q_iload_n C dX7_beatsOnce_66 67 2 rfl rfl ?_
            refine q_callV (k := 0) (ci := 6) (n := 1) (rest := [.int (nI x), .ref h0]) (Rr := []) C rfl (k_isP_recv hPo1) rfl (c_X7_takesUpmost l hZ hI h0 aS aZ aV aN aU aD fd hh ([(h0, .inr (6, [.int (fd 0), .ref aS, .ref aZ, .ref aV, .int (fd 4), .ref aN, .int (fd 6), .ref aU, .int (fd 8), .int (fd 9), .int (fd 10), .ref aD, .int (fd 12), .int (fd 13), .int (fd 14), .long hh]))]) hPo1 bx at0 ln sc ([(aS, .inl (cI, 350, .inl f2))]) hQo2 at0 (by omega) (by omega)) gX7_beatsOnce_X7_takesUpmost rfl rfl rfl (by decide +kernel) B.1 ⟨Nat.le_of_ble_eq_true rfl, Nat.le_of_ble_eq_true rfl⟩ rfl rfl (Nat.le_of_ble_eq_true rfl) dX7_beatsOnce_67 ⟨Nat.le_of_ble_eq_true rfl, Nat.le_of_ble_eq_true rfl⟩ [0, 1] [] (by decide : ([0, 1] ++ ([] : List Nat)).Perm (List.range 2)) rfl rfl 70 rfl (fun v0 R0 t0 ht0 hp0 => ?_)
            obtain ⟨rfl, wQ_67, hwQ_67, rfl⟩ := hp0
            refine q_eqs (st' := [.int (nI (k_x bx at0)), .int (nI x), .ref h0]) rfl ?_
            refine q_eqR (Rs' := [[(h0, .inr (6, [.int (fd 0), .ref aS, .ref aZ, .ref aV, .int (fd 4), .ref aN, .int (fd 6), .ref aU, .int (fd 8), .int (fd 9), .int (fd 10), .ref aD, .int (fd 12), .int (fd 13), .int (fd 14), .long hh]))], wQ_67]) rfl ?_
            have ht67 : k_x bx at0 < 12 := k_x_lt hQo2.2.1 (by omega) (by omega)
            refine q_eqs (st' := [.int (nI x), .int (nI x), .ref h0]) (by rw [ex1]) ?_
            refine q_callV (k := 0) (ci := 6) (n := 2) (rest := []) (Rr := []) C rfl (k_isP_recv hPo1) rfl (c_X7_puts l hZ hI h0 aS aZ aV aN aU aD fd hh ([(h0, .inr (6, [.int (fd 0), .ref aS, .ref aZ, .ref aV, .int (fd 4), .ref aN, .int (fd 6), .ref aU, .int (fd 8), .int (fd 9), .int (fd 10), .ref aD, .int (fd 12), .int (fd 13), .int (fd 14), .long hh]))]) hPo1 (k_drop bx at0) at0 ln sc wQ_67 hwQ_67 x x (by omega) (by rw [k_drop_n (by omega)]; omega) (by omega)) gX7_beatsOnce_X7_puts rfl rfl rfl (by decide +kernel) B.1 ⟨Nat.le_of_ble_eq_true rfl, Nat.le_of_ble_eq_true rfl⟩ rfl rfl (Nat.le_of_ble_eq_true rfl) dX7_beatsOnce_70 ⟨Nat.le_of_ble_eq_true rfl, Nat.le_of_ble_eq_true rfl⟩ [0, 1] [] (by decide : ([0, 1] ++ ([] : List Nat)).Perm (List.range 2)) rfl rfl 73 rfl (fun v0 R0 t0 ht0 hp0 => ?_)
            obtain ⟨rfl, wQ_70, hwQ_70, rfl⟩ := hp0
            refine q_eqs (st' := []) rfl ?_
            refine q_eqR (Rs' := [[(h0, .inr (6, [.int (fd 0), .ref aS, .ref aZ, .ref aV, .int (fd 4), .ref aN, .int (fd 6), .ref aU, .int (fd 8), .int (fd 9), .int (fd 10), .ref aD, .int (fd 12), .int (fd 13), .int (fd 14), .long hh]))], wQ_70]) rfl ?_
            refine q_aload_n C dX7_beatsOnce_73 74 3 rfl rfl ?_
            refine q_get (k := 0) (j := 0) (f := 1) C hinX7 f7 (fun _ h => h) (by decide) rfl dX7_beatsOnce_74 77 rfl rfl rfl rfl ?_
            refine q_bipush (v := nI 6) C dX7_beatsOnce_77 79 rfl (by decide) ?_
            refine q_dup2 C dX7_beatsOnce_79 80 rfl rfl rfl ?_
            obtain ⟨hat15, hok15, hlok15, f15, hm15, rfl⟩ := hwQ_70
            have hll15 := hlok15.1
            have hQo15 : k_isQ cI aS (k_put (k_drop bx at0) x x) at0 ln sc [(aS, .inl (cI, 350, .inl f15))] := ⟨hat15, hok15, hlok15, f15, hm15, rfl⟩
            refine q_iald (k := 1) (j := 0) (v := sc 6) C dX7_beatsOnce_80 81 rfl rfl rfl hcI 6 rfl (by omega) (by decide) (hm15.1 6 (by decide) (by decide)) ?_
            refine q_iconst (v := nI 1) C dX7_beatsOnce_81 82 rfl (by decide) ?_
            refine q_iadd (v := (sc 6) + (nI 1)) C dX7_beatsOnce_82 83 rfl rfl ?_
            refine q_iast (k := 1) (j := 0) C dX7_beatsOnce_83 84 rfl rfl rfl hcI 6 rfl (by omega) (by decide) [[(h0, .inr (6, [.int (fd 0), .ref aS, .ref aZ, .ref aV, .int (fd 4), .ref aN, .int (fd 6), .ref aU, .int (fd 8), .int (fd 9), .int (fd 10), .ref aD, .int (fd 12), .int (fd 13), .int (fd 14), .long hh]))], [(aS, .inl (cI, 350, .inl (upd f15 6 ((sc 6) + (nI 1)))))]] rfl ?_
            have hmf16 : k_MR (upd f15 6 ((sc 6) + (nI 1))) (k_put (k_drop bx at0) x x) at0 ln (upd sc 6 ((sc 6) + (nI 1))) := k_MR_sc hm15 (by decide) (by decide)
            have haf16 : at0 < 12 := hat15
            have hQf16 : k_isQ cI aS (k_put (k_drop bx at0) x x) at0 ln (upd sc 6 ((sc 6) + (nI 1))) [(aS, .inl (cI, 350, .inl (upd f15 6 ((sc 6) + (nI 1)))))] := ⟨haf16, hok15, hlok15, _, hmf16, rfl⟩
            refine q_goto C dX7_beatsOnce_84 99 (by decide) ?_
            refine q_aload_n C dX7_beatsOnce_99 100 3 rfl rfl ?_
            refine q_get (k := 0) (j := 0) (f := 1) C hinX7 f7 (fun _ h => h) (by decide) rfl dX7_beatsOnce_100 103 rfl rfl rfl rfl ?_
            refine q_bipush (v := nI 7) C dX7_beatsOnce_103 105 rfl (by decide) ?_
            refine q_dup2 C dX7_beatsOnce_105 106 rfl rfl rfl ?_
            refine q_iald (k := 1) (j := 0) (v := sc 7) C dX7_beatsOnce_106 107 rfl rfl rfl hcI 7 rfl (by omega) (by decide) (hmf16.1 7 (by decide) (by decide)) ?_
            refine q_iconst (v := nI 1) C dX7_beatsOnce_107 108 rfl (by decide) ?_
            refine q_iadd (v := (sc 7) + (nI 1)) C dX7_beatsOnce_108 109 rfl rfl ?_
            refine q_iast (k := 1) (j := 0) C dX7_beatsOnce_109 110 rfl rfl rfl hcI 7 rfl (by omega) (by decide) [[(h0, .inr (6, [.int (fd 0), .ref aS, .ref aZ, .ref aV, .int (fd 4), .ref aN, .int (fd 6), .ref aU, .int (fd 8), .int (fd 9), .int (fd 10), .ref aD, .int (fd 12), .int (fd 13), .int (fd 14), .long hh]))], [(aS, .inl (cI, 350, .inl (upd (upd f15 6 ((sc 6) + (nI 1))) 7 ((sc 7) + (nI 1)))))]] rfl ?_
            have hmf17 : k_MR (upd (upd f15 6 ((sc 6) + (nI 1))) 7 ((sc 7) + (nI 1))) (k_put (k_drop bx at0) x x) at0 ln (upd (upd sc 6 ((sc 6) + (nI 1))) 7 ((sc 7) + (nI 1))) := k_MR_sc hmf16 (by decide) (by decide)
            have haf17 : at0 < 12 := haf16
            have hQf17 : k_isQ cI aS (k_put (k_drop bx at0) x x) at0 ln (upd (upd sc 6 ((sc 6) + (nI 1))) 7 ((sc 7) + (nI 1))) [(aS, .inl (cI, 350, .inl (upd (upd f15 6 ((sc 6) + (nI 1))) 7 ((sc 7) + (nI 1)))))] := ⟨haf17, hok15, hlok15, _, hmf17, rfl⟩
            refine q_iload_n C dX7_beatsOnce_110 111 0 rfl rfl ?_
            exact q_zret C B (by decide) dX7_beatsOnce_111 rfl rfl (fun t0 ht0 => ⟨by rw [hmv]; rfl, _, by rw [k_nb, k_na, k_bsc, hmv, if_pos rfl, if_pos rfl, if_pos rfl, ← ex1]; exact hQf17, rfl⟩)

set_option maxHeartbeats 400000 in
set_option maxRecDepth 100000 in
theorem c_X7_beatsMany (l : Launch) {D : va_G} {tys : List (ClassId × FieldType)} {Z : (Nat → Prop) → State → Heap → Prop} (hZ : q_St Z) {cI : ClassId} (hI : tys[0]? = some (cI, .int)) (h0 : Nat) (aS : Nat) (aZ : Nat) (aV : Nat) (aN : Nat) (aU : Nat) (aD : Nat) (fd : Nat → Int32) (hh : Int64) (wP : va_W) (hP : k_isP cI h0 aS aZ aV aN aU aD fd hh wP) (bx : k_Bx) (at0 : Nat) (ln : List (Nat × Nat)) (sc : Nat → Int32) (wQ : va_W) (hQ : k_isQ cI aS bx at0 ln sc wQ) (n : Nat) (hn : n < 2147483648) : q_Ct l D tys Z yX7_beatsMany wsX7_beatsMany ({ frames := 5, cells := 0, slots := 0, locals := 162 } : Room) 0 0 [.ref h0, .int (nI n)] [wP, wQ] (fun v0 R0 _ => v0 = some (.int (nI (k_cnt (k_bm bx at0 (sc 3)) n))) ∧ ∃ wQ', k_isQ cI aS ((k_bs bx at0 (sc 3) n).1) ((k_bs bx at0 (sc 3) n).2) ln (k_psc bx at0 sc n) wQ' ∧ R0 = [wP, wQ']) := by
  have hcI := hI
  refine q_ct (cc := cX7_beatsMany) (maxL := 4) (ret := (some .int)) (own := RX7) (by decide) rfl hZ (Nat.le_of_ble_eq_true rfl) rfl ?_
  intro p9 e9 R s9 m9 args below meth c9 A Q C B
  have hts := C.2.2.2.2.1
  refine q_eqL (L' := [(0, .ref h0), (1, .int (nI n))]) rfl ?_
  refine q_iconst (v := nI 0) C dX7_beatsMany_0 1 rfl (by decide) ?_
  refine q_istore_n C dX7_beatsMany_1 2 rfl [(2, .int (nI 0)), (0, .ref h0), (1, .int (nI n))] (by decide) rfl ?_
  refine q_iconst (v := nI 0) C dX7_beatsMany_2 3 rfl (by decide) ?_
  refine q_istore_n C dX7_beatsMany_3 4 rfl [(3, .int (nI 0)), (2, .int (nI 0)), (0, .ref h0), (1, .int (nI n))] (by decide) rfl ?_
  have lp : ∀ (kk : Nat) (i : Nat) (k : Nat) (wb : va_W), n - i < kk → ∀ (hi : i ≤ n), ∀ (hk : k = k_cnt (k_bm bx at0 (sc 3)) i), ∀ (hkn : k ≤ i), ∀ (hwb : k_isQ cI aS (k_bs bx at0 (sc 3) i).1 (k_bs bx at0 (sc 3) i).2 ln (k_psc bx at0 sc i) wb), q_V p9 l e9 R s9 m9 args below meth c9 D A 4 Q 0 0 4 [(3, .int (nI i)), (2, .int (nI k)), (0, .ref h0), (1, .int (nI n))] [] [wP, wb] := by
    intro kk
    induction kk with
    | zero => intro i k wb hkk; exact absurd hkk (Nat.not_lt_zero _)
    | succ kk ih_lp =>
      intro i k wb hkk hi hk hkn hwb
      refine q_iload_n C dX7_beatsMany_4 5 0 rfl rfl ?_
      refine q_iload_n C dX7_beatsMany_5 6 3 rfl rfl ?_
      refine q_icmp_ge C dX7_beatsMany_6 9 30 rfl (by decide) (nI_leI (by omega) (by omega)) (fun h6 => ?_) (fun h6 => ?_)
      · refine q_iload_n C dX7_beatsMany_30 31 1 rfl rfl ?_
        obtain rfl : i = n := by omega
        exact q_iret C B dX7_beatsMany_31 rfl rfl (fun t0 ht0 => ⟨by rw [hk], _, hwb, rfl⟩)
      · refine q_iload_n C dX7_beatsMany_9 10 1 rfl rfl ?_
        refine q_aload_n C dX7_beatsMany_10 11 2 rfl rfl ?_
        refine q_callV (k := 0) (ci := 6) (n := 0) (rest := [.int (nI k)]) (Rr := []) C rfl (k_isP_recv hP) rfl (c_X7_beatsOnce l hZ hI h0 aS aZ aV aN aU aD fd hh wP hP ((k_bs bx at0 (sc 3) i).1) ((k_bs bx at0 (sc 3) i).2) ln (k_psc bx at0 sc i) wb hwb) gX7_beatsMany_X7_beatsOnce rfl rfl rfl (by decide +kernel) B.1 ⟨Nat.le_of_ble_eq_true rfl, Nat.le_of_ble_eq_true rfl⟩ rfl rfl (Nat.le_of_ble_eq_true rfl) dX7_beatsMany_11 ⟨Nat.le_of_ble_eq_true rfl, Nat.le_of_ble_eq_true rfl⟩ [0, 1] [] (by decide : ([0, 1] ++ ([] : List Nat)).Perm (List.range 2)) rfl rfl 14 rfl (fun v0 R0 t0 ht0 hp0 => ?_)
        obtain ⟨rfl, wQ_11, hwQ_11, rfl⟩ := hp0
        refine q_eqs (st' := [.int (q_b (k_mv ((k_bs bx at0 (sc 3) i).1) ((k_bs bx at0 (sc 3) i).2) ((k_psc bx at0 sc i) 3))), .int (nI k)]) rfl ?_
        refine q_eqR (Rs' := [wP, wQ_11]) rfl ?_
        refine q_if_eq (P := k_mv ((k_bs bx at0 (sc 3) i).1) ((k_bs bx at0 (sc 3) i).2) ((k_psc bx at0 sc i) 3) = false) C dX7_beatsMany_14 17 21 rfl (by decide) q_b0 (fun h14 => ?_) (fun h14 => ?_)
        · refine q_iconst (v := nI 0) C dX7_beatsMany_21 22 rfl (by decide) ?_
          refine q_iadd (v := nI k) C dX7_beatsMany_22 23 rfl (q_nadd (by omega)) ?_
          refine q_istore_n C dX7_beatsMany_23 24 rfl [(2, .int (nI k)), (3, .int (nI i)), (0, .ref h0), (1, .int (nI n))] (by decide) rfl ?_
          refine q_iinc (v := nI (i + 1)) C dX7_beatsMany_24 27 1 rfl rfl (q_ninc1 (by omega)) [(3, .int (nI (i + 1))), (2, .int (nI k)), (0, .ref h0), (1, .int (nI n))] (by decide) rfl ?_
          refine q_goto C dX7_beatsMany_27 4 (by decide) ?_
          refine q_sub (L' := [(3, .int (nI (i + 1))), (2, .int (nI k)), (0, .ref h0), (1, .int (nI n))]) [0, 1, 2, 3] rfl ?_
          exact ih_lp (i + 1) k wQ_11 (by omega) (by omega) (by rw [k_cnt_f (by rw [k_psc_3] at h14; simpa [k_bm] using h14)]; exact hk) (by omega) (by have hz := hwQ_11; rw [k_psc_3, k_psc_s] at hz; exact hz)
        · refine q_iconst (v := nI 1) C dX7_beatsMany_17 18 rfl (by decide) ?_
          refine q_goto C dX7_beatsMany_18 22 (by decide) ?_
          refine q_iadd (v := nI (k + 1)) C dX7_beatsMany_22 23 rfl (q_nadd (by omega)) ?_
          refine q_istore_n C dX7_beatsMany_23 24 rfl [(2, .int (nI (k + 1))), (3, .int (nI i)), (0, .ref h0), (1, .int (nI n))] (by decide) rfl ?_
          refine q_iinc (v := nI (i + 1)) C dX7_beatsMany_24 27 1 rfl rfl (q_ninc1 (by omega)) [(3, .int (nI (i + 1))), (2, .int (nI (k + 1))), (0, .ref h0), (1, .int (nI n))] (by decide) rfl ?_
          refine q_goto C dX7_beatsMany_27 4 (by decide) ?_
          refine q_sub (L' := [(3, .int (nI (i + 1))), (2, .int (nI (k + 1))), (0, .ref h0), (1, .int (nI n))]) [0, 1, 2, 3] rfl ?_
          exact ih_lp (i + 1) (k + 1) wQ_11 (by omega) (by omega) (by rw [k_cnt_t (by rw [k_psc_3] at h14; simpa [k_bm] using h14), hk]) (by omega) (by have hz := hwQ_11; rw [k_psc_3, k_psc_s] at hz; exact hz)
  refine q_sub (L' := [(3, .int (nI 0)), (2, .int (nI 0)), (0, .ref h0), (1, .int (nI n))]) [0, 1, 2, 3] rfl ?_
  exact lp _ 0 0 wQ (Nat.lt_succ_self _) (by omega) rfl (by omega) (by rw [k_psc_0]; exact hQ)

set_option maxHeartbeats 400000 in
set_option maxRecDepth 100000 in
theorem c_X7_refusesLetter (l : Launch) {D : va_G} {tys : List (ClassId × FieldType)} {Z : (Nat → Prop) → State → Heap → Prop} (hZ : q_St Z) {cI : ClassId} (hI : tys[0]? = some (cI, .int)) (h0 : Nat) (aS : Nat) (aZ : Nat) (aV : Nat) (aN : Nat) (aU : Nat) (aD : Nat) (fd : Nat → Int32) (hh : Int64) (wP : va_W) (hP : k_isP cI h0 aS aZ aV aN aU aD fd hh wP) (bx : k_Bx) (at0 : Nat) (ln : List (Nat × Nat)) (sc : Nat → Int32) (wQ : va_W) (hQ : k_isQ cI aS bx at0 ln sc wQ) (c : Nat) (hc : c < 12) : q_Ct l D tys Z yX7_refusesLetter wsX7_refusesLetter ({ frames := 3, cells := 0, slots := 0, locals := 102 } : Room) 0 0 [.ref h0, .int (nI c)] [wP, wQ] (fun v0 R0 _ => v0 = some (.int (nI (k_wn bx ln sc c))) ∧ R0 = [wP, wQ]) := by
  have hcI := hI
  refine q_ct (cc := cX7_refusesLetter) (maxL := 3) (ret := (some .int)) (own := RX7) (by decide) rfl hZ (Nat.le_of_ble_eq_true rfl) rfl ?_
  intro p9 e9 R s9 m9 args below meth c9 A Q C B
  have hts := C.2.2.2.2.1
  have hinX7 : ∀ w ∈ u_ws RX7 TX7 16, w ∈ wsX7_refusesLetter := by decide +kernel
  have f7 := hts (.fieldLink RX7 7 "SortCasesModel" "s" "[I") (by decide +kernel)
  refine q_eqL (L' := [(0, .ref h0), (1, .int (nI c))]) rfl ?_
  have hok := hQ.2.1
  have hnp := k_np_le ln
  refine q_aload_n C dX7_refusesLetter_0 1 0 rfl rfl ?_
  refine q_iload_n C dX7_refusesLetter_1 2 1 rfl rfl ?_
  refine q_callV (k := 0) (ci := 6) (n := 1) (rest := []) (Rr := []) C rfl (k_isP_recv hP) rfl (c_X7_upmost l hZ hI h0 aS aZ aV aN aU aD fd hh wP hP bx at0 ln sc wQ hQ c (by omega)) gX7_refusesLetter_X7_upmost rfl rfl rfl (by decide +kernel) B.1 ⟨Nat.le_of_ble_eq_true rfl, Nat.le_of_ble_eq_true rfl⟩ rfl rfl (Nat.le_of_ble_eq_true rfl) dX7_refusesLetter_2 ⟨Nat.le_of_ble_eq_true rfl, Nat.le_of_ble_eq_true rfl⟩ [0, 1] [] (by decide : ([0, 1] ++ ([] : List Nat)).Perm (List.range 2)) rfl rfl 5 rfl (fun v0 R0 t0 ht0 hp0 => ?_)
  obtain ⟨rfl, rfl⟩ := hp0
  refine q_eqs (st' := [.int (k_top bx c 0)]) rfl ?_
  refine q_eqR (Rs' := [wP, wQ]) rfl ?_
  refine q_topi (fun r2 hr2 => ?_)
  rcases Nat.eq_zero_or_pos (bx c).length with he1 | he1
  · rw [k_top_none (by omega)] at hr2; subst hr2
    refine q_istore_n C dX7_refusesLetter_5 6 rfl [(2, .int (-1)), (0, .ref h0), (1, .int (nI c))] (by decide) rfl ?_
    refine q_iload_n C dX7_refusesLetter_6 7 0 rfl rfl ?_
    refine q_iconst (v := -1) C dX7_refusesLetter_7 8 rfl (by decide) ?_
    refine q_icmp_ne (P := True) C dX7_refusesLetter_8 11 13 rfl (by decide) ⟨fun _ => trivial, fun _ => rfl⟩ (fun h8 => False.elim (by first | omega | simp_all)) (fun h8 => ?_)
    refine q_iconst (v := nI 1) C dX7_refusesLetter_11 12 rfl (by decide) ?_
    exact q_iret C B dX7_refusesLetter_12 rfl rfl (fun t0 ht0 => ⟨by rw [k_wn_1 he1], rfl⟩)
  · have hx1 : r2 = nI (k_x bx c) := hr2.trans (k_top_some he1)
    have hxl1 := k_x_lt hok (by omega) he1
    obtain ⟨x, ex1⟩ : ∃ x, x = k_x bx c := ⟨_, rfl⟩
    rw [← ex1] at hx1 hxl1
    subst hx1
    refine q_istore_n C dX7_refusesLetter_5 6 rfl [(2, .int (nI x)), (0, .ref h0), (1, .int (nI c))] (by decide) rfl ?_
    refine q_iload_n C dX7_refusesLetter_6 7 0 rfl rfl ?_
    refine q_iconst (v := -1) C dX7_refusesLetter_7 8 rfl (by decide) ?_
    refine q_icmp_ne (P := False) C dX7_refusesLetter_8 11 13 rfl (by decide) (q_m1 (by omega)) (fun h8 => ?_) (fun h8 => False.elim (by first | omega | simp_all))
    refine q_aload_n C dX7_refusesLetter_13 14 1 rfl rfl ?_
    refine q_callV (k := 0) (ci := 6) (n := 0) (rest := []) (Rr := []) C rfl (k_isP_recv hP) rfl (c_X7_width l hZ hI h0 aS aZ aV aN aU aD fd hh wP hP bx at0 ln sc wQ hQ) gX7_refusesLetter_X7_width rfl rfl rfl (by decide +kernel) B.1 ⟨Nat.le_of_ble_eq_true rfl, Nat.le_of_ble_eq_true rfl⟩ rfl rfl (Nat.le_of_ble_eq_true rfl) dX7_refusesLetter_14 ⟨Nat.le_of_ble_eq_true rfl, Nat.le_of_ble_eq_true rfl⟩ [0, 1] [] (by decide : ([0, 1] ++ ([] : List Nat)).Perm (List.range 2)) rfl rfl 17 rfl (fun v0 R0 t0 ht0 hp0 => ?_)
    obtain ⟨rfl, rfl⟩ := hp0
    refine q_eqs (st' := [.int (nI (k_np ln - 1))]) rfl ?_
    refine q_eqR (Rs' := [wP, wQ]) rfl ?_
    refine q_aload_n C dX7_refusesLetter_17 18 1 rfl rfl ?_
    obtain rfl := hP
    have hPo1 : k_isP cI h0 aS aZ aV aN aU aD fd hh [(h0, .inr (6, [.int (fd 0), .ref aS, .ref aZ, .ref aV, .int (fd 4), .ref aN, .int (fd 6), .ref aU, .int (fd 8), .int (fd 9), .int (fd 10), .ref aD, .int (fd 12), .int (fd 13), .int (fd 14), .long hh]))] := rfl
    refine q_get (k := 0) (j := 0) (f := 1) C hinX7 f7 (fun _ h => h) (by decide) rfl dX7_refusesLetter_18 21 rfl rfl rfl rfl ?_
    refine q_bipush (v := nI 12) C dX7_refusesLetter_21 23 rfl (by decide) ?_
    obtain ⟨hat2, hok2, hlok2, f2, hm2, rfl⟩ := hQ
    have hll2 := hlok2.1
    have hQo2 : k_isQ cI aS bx at0 ln sc [(aS, .inl (cI, 350, .inl f2))] := ⟨hat2, hok2, hlok2, f2, hm2, rfl⟩
    refine q_iald (k := 1) (j := 0) (v := nI ln.length) C dX7_refusesLetter_23 24 rfl rfl rfl hcI 12 rfl (by omega) (by decide) (hm2.2.2.1) ?_
    refine q_if_le C dX7_refusesLetter_24 27 31 rfl (by decide) (q_le0 (by omega)) (fun h24 => ?_) (fun h24 => ?_)
    · refine q_iconst (v := nI 0) C dX7_refusesLetter_31 32 rfl (by decide) ?_
      refine q_iadd (v := nI (k_np ln - 1)) C dX7_refusesLetter_32 33 rfl (q_nadd (by omega)) ?_
      refine q_iload_n C dX7_refusesLetter_33 34 0 rfl rfl ?_
      refine q_callS (n := 1) (rest := [.int (nI (k_np ln - 1))]) (Rr := [[(h0, .inr (6, [.int (fd 0), .ref aS, .ref aZ, .ref aV, .int (fd 4), .ref aN, .int (fd 6), .ref aU, .int (fd 8), .int (fd 9), .int (fd 10), .ref aD, .int (fd 12), .int (fd 13), .int (fd 14), .long hh]))], [(aS, .inl (cI, 350, .inl f2))]]) C (c_X7_widthOf l hZ hI x (by omega)) gX7_refusesLetter_X7_widthOf rfl rfl rfl (by decide +kernel) B.1 ⟨Nat.le_of_ble_eq_true rfl, Nat.le_of_ble_eq_true rfl⟩ rfl rfl (Nat.le_of_ble_eq_true rfl) dX7_refusesLetter_34 ⟨Nat.le_of_ble_eq_true rfl, Nat.le_of_ble_eq_true rfl⟩ [] [0, 1] (by decide : ([] ++ ([0, 1] : List Nat)).Perm (List.range 2)) rfl rfl 37 rfl (fun v0 R0 t0 ht0 hp0 => ?_)
      obtain ⟨rfl, rfl⟩ := hp0
      refine q_eqs (st' := [.int (nI (k_wd x)), .int (nI (k_np ln - 1))]) rfl ?_
      refine q_eqR (Rs' := [[(h0, .inr (6, [.int (fd 0), .ref aS, .ref aZ, .ref aV, .int (fd 4), .ref aN, .int (fd 6), .ref aU, .int (fd 8), .int (fd 9), .int (fd 10), .ref aD, .int (fd 12), .int (fd 13), .int (fd 14), .long hh]))], [(aS, .inl (cI, 350, .inl f2))]]) rfl ?_
      have hw34 : k_wd x ≤ 4 := (k_wd_le _).2
      refine q_iadd (v := nI (k_np ln + k_wd x)) C dX7_refusesLetter_37 38 rfl (q_nadd (by omega)) ?_
      refine q_aload_n C dX7_refusesLetter_38 39 1 rfl rfl ?_
      refine q_get (k := 0) (j := 0) (f := 1) C hinX7 f7 (fun _ h => h) (by decide) rfl dX7_refusesLetter_39 42 rfl rfl rfl rfl ?_
      refine q_iconst (v := nI 0) C dX7_refusesLetter_42 43 rfl (by decide) ?_
      refine q_iald (k := 1) (j := 0) (v := sc 0) C dX7_refusesLetter_43 44 rfl rfl rfl hcI 0 rfl (by omega) (by decide) (hm2.1 0 (by decide) (by decide)) ?_
      refine q_icmp_le C dX7_refusesLetter_44 47 51 rfl (by decide) Iff.rfl (fun h44 => ?_) (fun h44 => ?_)
      · refine q_iconst (v := nI 0) C dX7_refusesLetter_51 52 rfl (by decide) ?_
        exact q_iret C B dX7_refusesLetter_52 rfl rfl (fun t0 ht0 => ⟨by rw [k_wn_0 he1 (by rw [← ex1]; exact h44)], rfl⟩)
      · refine q_iconst (v := nI 2) C dX7_refusesLetter_47 48 rfl (by decide) ?_
        refine q_goto C dX7_refusesLetter_48 52 (by decide) ?_
        exact q_iret C B dX7_refusesLetter_52 rfl rfl (fun t0 ht0 => ⟨by rw [k_wn_2 he1 (by rw [← ex1]; exact h44)], rfl⟩)
    · refine q_iconst (v := nI 1) C dX7_refusesLetter_27 28 rfl (by decide) ?_
      refine q_goto C dX7_refusesLetter_28 32 (by decide) ?_
      refine q_iadd (v := nI (k_np ln)) C dX7_refusesLetter_32 33 rfl (q_nadd (by omega)) ?_
      refine q_iload_n C dX7_refusesLetter_33 34 0 rfl rfl ?_
      refine q_callS (n := 1) (rest := [.int (nI (k_np ln))]) (Rr := [[(h0, .inr (6, [.int (fd 0), .ref aS, .ref aZ, .ref aV, .int (fd 4), .ref aN, .int (fd 6), .ref aU, .int (fd 8), .int (fd 9), .int (fd 10), .ref aD, .int (fd 12), .int (fd 13), .int (fd 14), .long hh]))], [(aS, .inl (cI, 350, .inl f2))]]) C (c_X7_widthOf l hZ hI x (by omega)) gX7_refusesLetter_X7_widthOf rfl rfl rfl (by decide +kernel) B.1 ⟨Nat.le_of_ble_eq_true rfl, Nat.le_of_ble_eq_true rfl⟩ rfl rfl (Nat.le_of_ble_eq_true rfl) dX7_refusesLetter_34 ⟨Nat.le_of_ble_eq_true rfl, Nat.le_of_ble_eq_true rfl⟩ [] [0, 1] (by decide : ([] ++ ([0, 1] : List Nat)).Perm (List.range 2)) rfl rfl 37 rfl (fun v0 R0 t0 ht0 hp0 => ?_)
      obtain ⟨rfl, rfl⟩ := hp0
      refine q_eqs (st' := [.int (nI (k_wd x)), .int (nI (k_np ln))]) rfl ?_
      refine q_eqR (Rs' := [[(h0, .inr (6, [.int (fd 0), .ref aS, .ref aZ, .ref aV, .int (fd 4), .ref aN, .int (fd 6), .ref aU, .int (fd 8), .int (fd 9), .int (fd 10), .ref aD, .int (fd 12), .int (fd 13), .int (fd 14), .long hh]))], [(aS, .inl (cI, 350, .inl f2))]]) rfl ?_
      have hw34 : k_wd x ≤ 4 := (k_wd_le _).2
      refine q_iadd (v := nI (k_np ln + k_wd x)) C dX7_refusesLetter_37 38 rfl (q_nadd (by omega)) ?_
      refine q_aload_n C dX7_refusesLetter_38 39 1 rfl rfl ?_
      refine q_get (k := 0) (j := 0) (f := 1) C hinX7 f7 (fun _ h => h) (by decide) rfl dX7_refusesLetter_39 42 rfl rfl rfl rfl ?_
      refine q_iconst (v := nI 0) C dX7_refusesLetter_42 43 rfl (by decide) ?_
      refine q_iald (k := 1) (j := 0) (v := sc 0) C dX7_refusesLetter_43 44 rfl rfl rfl hcI 0 rfl (by omega) (by decide) (hm2.1 0 (by decide) (by decide)) ?_
      refine q_icmp_le C dX7_refusesLetter_44 47 51 rfl (by decide) Iff.rfl (fun h44 => ?_) (fun h44 => ?_)
      · refine q_iconst (v := nI 0) C dX7_refusesLetter_51 52 rfl (by decide) ?_
        exact q_iret C B dX7_refusesLetter_52 rfl rfl (fun t0 ht0 => ⟨by rw [k_wn_0 he1 (by rw [← ex1]; exact h44)], rfl⟩)
      · refine q_iconst (v := nI 2) C dX7_refusesLetter_47 48 rfl (by decide) ?_
        refine q_goto C dX7_refusesLetter_48 52 (by decide) ?_
        exact q_iret C B dX7_refusesLetter_52 rfl rfl (fun t0 ht0 => ⟨by rw [k_wn_2 he1 (by rw [← ex1]; exact h44)], rfl⟩)

set_option maxHeartbeats 400000 in
set_option maxRecDepth 100000 in
theorem c_X7_sets (l : Launch) {D : va_G} {tys : List (ClassId × FieldType)} {Z : (Nat → Prop) → State → Heap → Prop} (hZ : q_St Z) {cI : ClassId} (hI : tys[0]? = some (cI, .int)) (h0 : Nat) (aS : Nat) (aZ : Nat) (aV : Nat) (aN : Nat) (aU : Nat) (aD : Nat) (fd : Nat → Int32) (hh : Int64) (wP : va_W) (hP : k_isP cI h0 aS aZ aV aN aU aD fd hh wP) (bx : k_Bx) (at0 : Nat) (ln : List (Nat × Nat)) (sc : Nat → Int32) (wQ : va_W) (hQ : k_isQ cI aS bx at0 ln sc wQ) (c : Nat) (hc : c < 12) (he0 : 0 < (bx c).length) (hl40 : ln.length < 40) (hs1 : sc 1 = nI (k_n1 sc)) (hs9 : k_n1 sc ≤ 9) : q_Ct l D tys Z yX7_sets wsX7_sets ({ frames := 6, cells := 0, slots := 0, locals := 192 } : Room) 0 0 [.ref h0, .int (nI c)] [wP, wQ] (fun v0 R0 _ => v0 = some (.int (nI (k_x bx c))) ∧ ∃ wQ', k_isQ cI aS ((k_set (bx, at0, ln, sc) c).1) ((k_set (bx, at0, ln, sc) c).2.1) (ln ++ [(k_x bx c, c)]) ((k_set (bx, at0, ln, sc) c).2.2.2) wQ' ∧ R0 = [wP, wQ']) := by
  have hcI := hI
  refine q_ct (cc := cX7_sets) (maxL := 3) (ret := (some .int)) (own := RX7) (by decide) rfl hZ (Nat.le_of_ble_eq_true rfl) rfl ?_
  intro p9 e9 R s9 m9 args below meth c9 A Q C B
  have hts := C.2.2.2.2.1
  have hinX7 : ∀ w ∈ u_ws RX7 TX7 16, w ∈ wsX7_sets := by decide +kernel
  have f7 := hts (.fieldLink RX7 7 "SortCasesModel" "s" "[I") (by decide +kernel)
  refine q_eqL (L' := [(0, .ref h0), (1, .int (nI c))]) rfl ?_
  refine q_aload_n C dX7_sets_0 1 0 rfl rfl ?_
  refine q_iload_n C dX7_sets_1 2 1 rfl rfl ?_
  refine q_callV (k := 0) (ci := 6) (n := 1) (rest := []) (Rr := []) C rfl (k_isP_recv hP) rfl (c_X7_takesUpmost l hZ hI h0 aS aZ aV aN aU aD fd hh wP hP bx at0 ln sc wQ hQ c (by omega) (by omega)) gX7_sets_X7_takesUpmost rfl rfl rfl (by decide +kernel) B.1 ⟨Nat.le_of_ble_eq_true rfl, Nat.le_of_ble_eq_true rfl⟩ rfl rfl (Nat.le_of_ble_eq_true rfl) dX7_sets_2 ⟨Nat.le_of_ble_eq_true rfl, Nat.le_of_ble_eq_true rfl⟩ [0, 1] [] (by decide : ([0, 1] ++ ([] : List Nat)).Perm (List.range 2)) rfl rfl 5 rfl (fun v0 R0 t0 ht0 hp0 => ?_)
  obtain ⟨rfl, wQ_2, hwQ_2, rfl⟩ := hp0
  refine q_eqs (st' := [.int (nI (k_x bx c))]) rfl ?_
  refine q_eqR (Rs' := [wP, wQ_2]) rfl ?_
  have ht2 : k_x bx c < 12 := k_x_lt hQ.2.1 (by omega) (by omega)
  refine q_istore_n C dX7_sets_5 6 rfl [(2, .int (nI (k_x bx c))), (0, .ref h0), (1, .int (nI c))] (by decide) rfl ?_
  refine q_aload_n C dX7_sets_6 7 1 rfl rfl ?_
  obtain rfl := hP
  have hPo1 : k_isP cI h0 aS aZ aV aN aU aD fd hh [(h0, .inr (6, [.int (fd 0), .ref aS, .ref aZ, .ref aV, .int (fd 4), .ref aN, .int (fd 6), .ref aU, .int (fd 8), .int (fd 9), .int (fd 10), .ref aD, .int (fd 12), .int (fd 13), .int (fd 14), .long hh]))] := rfl
  refine q_get (k := 0) (j := 0) (f := 1) C hinX7 f7 (fun _ h => h) (by decide) rfl dX7_sets_7 10 rfl rfl rfl rfl ?_
  refine q_bipush (v := nI 13) C dX7_sets_10 12 rfl (by decide) ?_
  refine q_aload_n C dX7_sets_12 13 1 rfl rfl ?_
  refine q_get (k := 0) (j := 0) (f := 1) C hinX7 f7 (fun _ h => h) (by decide) rfl dX7_sets_13 16 rfl rfl rfl rfl ?_
  refine q_bipush (v := nI 12) C dX7_sets_16 18 rfl (by decide) ?_
  obtain ⟨hat2, hok2, hlok2, f2, hm2, rfl⟩ := hwQ_2
  have hll2 := hlok2.1
  have hQo2 : k_isQ cI aS (k_drop bx c) at0 ln sc [(aS, .inl (cI, 350, .inl f2))] := ⟨hat2, hok2, hlok2, f2, hm2, rfl⟩
  refine q_iald (k := 1) (j := 0) (v := nI ln.length) C dX7_sets_18 19 rfl rfl rfl hcI 12 rfl (by omega) (by decide) (hm2.2.2.1) ?_
  refine q_iadd (v := nI (ln.length + 13)) C dX7_sets_19 20 rfl (q_nadd (by omega)) ?_
  refine q_iload_n C dX7_sets_20 21 0 rfl rfl ?_
  refine q_iast (k := 1) (j := 0) C dX7_sets_21 22 rfl rfl rfl hcI (ln.length + 13) rfl (by omega) (by decide) [[(h0, .inr (6, [.int (fd 0), .ref aS, .ref aZ, .ref aV, .int (fd 4), .ref aN, .int (fd 6), .ref aU, .int (fd 8), .int (fd 9), .int (fd 10), .ref aD, .int (fd 12), .int (fd 13), .int (fd 14), .long hh]))], [(aS, .inl (cI, 350, .inl (upd f2 (ln.length + 13) (nI (k_x bx c)))))]] rfl ?_
  refine q_aload_n C dX7_sets_22 23 1 rfl rfl ?_
  refine q_get (k := 0) (j := 0) (f := 1) C hinX7 f7 (fun _ h => h) (by decide) rfl dX7_sets_23 26 rfl rfl rfl rfl ?_
  refine q_bipush (v := nI 54) C dX7_sets_26 28 rfl (by decide) ?_
  refine q_aload_n C dX7_sets_28 29 1 rfl rfl ?_
  refine q_get (k := 0) (j := 0) (f := 1) C hinX7 f7 (fun _ h => h) (by decide) rfl dX7_sets_29 32 rfl rfl rfl rfl ?_
  refine q_bipush (v := nI 12) C dX7_sets_32 34 rfl (by decide) ?_
  refine q_iald (k := 1) (j := 0) (v := nI ln.length) C dX7_sets_34 35 rfl rfl rfl hcI 12 rfl (by omega) (by decide) (by rw [pk_un (by omega)]; exact hm2.2.2.1) ?_
  refine q_iadd (v := nI (ln.length + 54)) C dX7_sets_35 36 rfl (q_nadd (by omega)) ?_
  refine q_iload_n C dX7_sets_36 37 2 rfl rfl ?_
  refine q_iast (k := 1) (j := 0) C dX7_sets_37 38 rfl rfl rfl hcI (ln.length + 54) rfl (by omega) (by decide) [[(h0, .inr (6, [.int (fd 0), .ref aS, .ref aZ, .ref aV, .int (fd 4), .ref aN, .int (fd 6), .ref aU, .int (fd 8), .int (fd 9), .int (fd 10), .ref aD, .int (fd 12), .int (fd 13), .int (fd 14), .long hh]))], [(aS, .inl (cI, 350, .inl (upd (upd f2 (ln.length + 13) (nI (k_x bx c))) (ln.length + 54) (nI c))))]] rfl ?_
  refine q_aload_n C dX7_sets_38 39 1 rfl rfl ?_
  refine q_get (k := 0) (j := 0) (f := 1) C hinX7 f7 (fun _ h => h) (by decide) rfl dX7_sets_39 42 rfl rfl rfl rfl ?_
  refine q_bipush (v := nI 12) C dX7_sets_42 44 rfl (by decide) ?_
  refine q_dup2 C dX7_sets_44 45 rfl rfl rfl ?_
  refine q_iald (k := 1) (j := 0) (v := nI ln.length) C dX7_sets_45 46 rfl rfl rfl hcI 12 rfl (by omega) (by decide) (by rw [pk_un (by omega), pk_un (by omega)]; exact hm2.2.2.1) ?_
  refine q_iconst (v := nI 1) C dX7_sets_46 47 rfl (by decide) ?_
  refine q_iadd (v := nI (ln.length + 1)) C dX7_sets_47 48 rfl (q_nadd (by omega)) ?_
  refine q_iast (k := 1) (j := 0) C dX7_sets_48 49 rfl rfl rfl hcI 12 rfl (by omega) (by decide) [[(h0, .inr (6, [.int (fd 0), .ref aS, .ref aZ, .ref aV, .int (fd 4), .ref aN, .int (fd 6), .ref aU, .int (fd 8), .int (fd 9), .int (fd 10), .ref aD, .int (fd 12), .int (fd 13), .int (fd 14), .long hh]))], [(aS, .inl (cI, 350, .inl (upd (upd (upd f2 (ln.length + 13) (nI (k_x bx c))) (ln.length + 54) (nI c)) 12 (nI (ln.length + 1)))))]] rfl ?_
  have hma1 := k_MR_add (x := k_x bx c) (c := c) hl40 hm2
  have hla1 : k_Lok (ln ++ [(k_x bx c, c)]) := k_Lok_app hlok2 hl40 (by omega) (by omega)
  have hQa1 : k_isQ cI aS (k_drop bx c) at0 (ln ++ [(k_x bx c, c)]) sc [(aS, .inl (cI, 350, .inl (upd (upd (upd f2 (ln.length + 13) (nI (k_x bx c))) (ln.length + 54) (nI c)) 12 (nI (ln.length + 1)))))] := ⟨hat2, hok2, hla1, _, hma1, rfl⟩
  obtain ⟨wA1, eA1⟩ : ∃ w : va_W, w = [(aS, .inl (cI, 350, .inl (upd (upd (upd f2 (ln.length + 13) (nI (k_x bx c))) (ln.length + 54) (nI c)) 12 (nI (ln.length + 1)))))] := ⟨_, rfl⟩
  rw [← eA1] at hQa1
  refine q_eqR (Rs' := [[(h0, .inr (6, [.int (fd 0), .ref aS, .ref aZ, .ref aV, .int (fd 4), .ref aN, .int (fd 6), .ref aU, .int (fd 8), .int (fd 9), .int (fd 10), .ref aD, .int (fd 12), .int (fd 13), .int (fd 14), .long hh]))], wA1]) (by rw [eA1]) ?_
  refine q_aload_n C dX7_sets_49 50 1 rfl rfl ?_
  refine q_get (k := 0) (j := 0) (f := 1) C hinX7 f7 (fun _ h => h) (by decide) rfl dX7_sets_50 53 rfl rfl rfl rfl ?_
  refine q_iconst (v := nI 5) C dX7_sets_53 54 rfl (by decide) ?_
  refine q_dup2 C dX7_sets_54 55 rfl rfl rfl ?_
  obtain ⟨hat3, hok3, hlok3, f3, hm3, rfl⟩ := hQa1
  have hll3 := hlok3.1
  have hQo3 : k_isQ cI aS (k_drop bx c) at0 (ln ++ [(k_x bx c, c)]) sc [(aS, .inl (cI, 350, .inl f3))] := ⟨hat3, hok3, hlok3, f3, hm3, rfl⟩
  refine q_iald (k := 1) (j := 0) (v := sc 5) C dX7_sets_55 56 rfl rfl rfl hcI 5 rfl (by omega) (by decide) (hm3.1 5 (by decide) (by decide)) ?_
  refine q_iconst (v := nI 1) C dX7_sets_56 57 rfl (by decide) ?_
  refine q_iadd (v := (sc 5) + (nI 1)) C dX7_sets_57 58 rfl rfl ?_
  refine q_iast (k := 1) (j := 0) C dX7_sets_58 59 rfl rfl rfl hcI 5 rfl (by omega) (by decide) [[(h0, .inr (6, [.int (fd 0), .ref aS, .ref aZ, .ref aV, .int (fd 4), .ref aN, .int (fd 6), .ref aU, .int (fd 8), .int (fd 9), .int (fd 10), .ref aD, .int (fd 12), .int (fd 13), .int (fd 14), .long hh]))], [(aS, .inl (cI, 350, .inl (upd f3 5 ((sc 5) + (nI 1)))))]] rfl ?_
  have hmf4 : k_MR (upd f3 5 ((sc 5) + (nI 1))) (k_drop bx c) at0 (ln ++ [(k_x bx c, c)]) (upd sc 5 ((sc 5) + (nI 1))) := k_MR_sc hm3 (by decide) (by decide)
  have haf4 : at0 < 12 := hat3
  have hQf4 : k_isQ cI aS (k_drop bx c) at0 (ln ++ [(k_x bx c, c)]) (upd sc 5 ((sc 5) + (nI 1))) [(aS, .inl (cI, 350, .inl (upd f3 5 ((sc 5) + (nI 1)))))] := ⟨haf4, hok3, hlok3, _, hmf4, rfl⟩
  refine q_aload_n C dX7_sets_59 60 1 rfl rfl ?_
  refine q_get (k := 0) (j := 0) (f := 1) C hinX7 f7 (fun _ h => h) (by decide) rfl dX7_sets_60 63 rfl rfl rfl rfl ?_
  refine q_iconst (v := nI 3) C dX7_sets_63 64 rfl (by decide) ?_
  refine q_iload_n C dX7_sets_64 65 2 rfl rfl ?_
  refine q_iast (k := 1) (j := 0) C dX7_sets_65 66 rfl rfl rfl hcI 3 rfl (by omega) (by decide) [[(h0, .inr (6, [.int (fd 0), .ref aS, .ref aZ, .ref aV, .int (fd 4), .ref aN, .int (fd 6), .ref aU, .int (fd 8), .int (fd 9), .int (fd 10), .ref aD, .int (fd 12), .int (fd 13), .int (fd 14), .long hh]))], [(aS, .inl (cI, 350, .inl (upd (upd f3 5 ((sc 5) + (nI 1))) 3 (nI c))))]] rfl ?_
  have hmf5 : k_MR (upd (upd f3 5 ((sc 5) + (nI 1))) 3 (nI c)) (k_drop bx c) at0 (ln ++ [(k_x bx c, c)]) (upd (upd sc 5 ((sc 5) + (nI 1))) 3 (nI c)) := k_MR_sc hmf4 (by decide) (by decide)
  have haf5 : at0 < 12 := haf4
  have hQf5 : k_isQ cI aS (k_drop bx c) at0 (ln ++ [(k_x bx c, c)]) (upd (upd sc 5 ((sc 5) + (nI 1))) 3 (nI c)) [(aS, .inl (cI, 350, .inl (upd (upd f3 5 ((sc 5) + (nI 1))) 3 (nI c))))] := ⟨haf5, hok3, hlok3, _, hmf5, rfl⟩
  refine q_aload_n C dX7_sets_66 67 1 rfl rfl ?_
  refine q_aload_n C dX7_sets_67 68 1 rfl rfl ?_
  refine q_get (k := 0) (j := 0) (f := 1) C hinX7 f7 (fun _ h => h) (by decide) rfl dX7_sets_68 71 rfl rfl rfl rfl ?_
  refine q_iconst (v := nI 1) C dX7_sets_71 72 rfl (by decide) ?_
  refine q_iald (k := 1) (j := 0) (v := nI ((k_n1 sc))) C dX7_sets_72 73 rfl rfl rfl hcI 1 rfl (by omega) (by decide) ((hmf5.1 1 (by decide) (by decide)).trans hs1) ?_
  refine q_callV (k := 0) (ci := 6) (n := 1) (rest := []) (Rr := []) C rfl (k_isP_recv hPo1) rfl (c_X7_beatsMany l hZ hI h0 aS aZ aV aN aU aD fd hh ([(h0, .inr (6, [.int (fd 0), .ref aS, .ref aZ, .ref aV, .int (fd 4), .ref aN, .int (fd 6), .ref aU, .int (fd 8), .int (fd 9), .int (fd 10), .ref aD, .int (fd 12), .int (fd 13), .int (fd 14), .long hh]))]) hPo1 (k_drop bx c) at0 (ln ++ [(k_x bx c, c)]) (upd (upd sc 5 ((sc 5) + (nI 1))) 3 (nI c)) ([(aS, .inl (cI, 350, .inl (upd (upd f3 5 ((sc 5) + (nI 1))) 3 (nI c))))]) hQf5 ((k_n1 sc)) (by omega)) gX7_sets_X7_beatsMany rfl rfl rfl (by decide +kernel) B.1 ⟨Nat.le_of_ble_eq_true rfl, Nat.le_of_ble_eq_true rfl⟩ rfl rfl (Nat.le_of_ble_eq_true rfl) dX7_sets_73 ⟨Nat.le_of_ble_eq_true rfl, Nat.le_of_ble_eq_true rfl⟩ [0, 1] [] (by decide : ([0, 1] ++ ([] : List Nat)).Perm (List.range 2)) rfl rfl 76 rfl (fun v0 R0 t0 ht0 hp0 => ?_)
  obtain ⟨rfl, wQ_73, hwQ_73, rfl⟩ := hp0
  refine q_eqs (st' := [.int (nI (k_cnt (k_bm (k_drop bx c) at0 ((upd (upd sc 5 ((sc 5) + (nI 1))) 3 (nI c)) 3)) ((k_n1 sc))))]) rfl ?_
  refine q_eqR (Rs' := [[(h0, .inr (6, [.int (fd 0), .ref aS, .ref aZ, .ref aV, .int (fd 4), .ref aN, .int (fd 6), .ref aU, .int (fd 8), .int (fd 9), .int (fd 10), .ref aD, .int (fd 12), .int (fd 13), .int (fd 14), .long hh]))], wQ_73]) rfl ?_
  refine q_pop C dX7_sets_76 77 rfl rfl ?_
  refine q_iload_n C dX7_sets_77 78 0 rfl rfl ?_
  exact q_iret C B dX7_sets_78 rfl rfl (fun t0 ht0 => ⟨rfl, _, hwQ_73, rfl⟩)

set_option maxHeartbeats 400000 in
set_option maxRecDepth 100000 in
theorem c_X7_idles (l : Launch) {D : va_G} {tys : List (ClassId × FieldType)} {Z : (Nat → Prop) → State → Heap → Prop} (hZ : q_St Z) {cI : ClassId} (hI : tys[0]? = some (cI, .int)) (h0 : Nat) (aS : Nat) (aZ : Nat) (aV : Nat) (aN : Nat) (aU : Nat) (aD : Nat) (fd : Nat → Int32) (hh : Int64) (wP : va_W) (hP : k_isP cI h0 aS aZ aV aN aU aD fd hh wP) (bx : k_Bx) (at0 : Nat) (ln : List (Nat × Nat)) (sc : Nat → Int32) (wQ : va_W) (hQ : k_isQ cI aS bx at0 ln sc wQ) (n : Nat) (hn : n < 2147483648) : q_Ct l D tys Z yX7_idles wsX7_idles ({ frames := 6, cells := 0, slots := 0, locals := 192 } : Room) 0 0 [.ref h0, .int (nI n)] [wP, wQ] (fun v0 R0 _ => v0 = some (.int (nI (k_cnt (k_bm bx at0 (-1)) n))) ∧ ∃ wQ', k_isQ cI aS ((k_bs bx at0 (-1) n).1) ((k_bs bx at0 (-1) n).2) ln (k_psc bx at0 (upd sc 3 (-1)) n) wQ' ∧ R0 = [wP, wQ']) := by
  have hcI := hI
  refine q_ct (cc := cX7_idles) (maxL := 2) (ret := (some .int)) (own := RX7) (by decide) rfl hZ (Nat.le_of_ble_eq_true rfl) rfl ?_
  intro p9 e9 R s9 m9 args below meth c9 A Q C B
  have hts := C.2.2.2.2.1
  have hinX7 : ∀ w ∈ u_ws RX7 TX7 16, w ∈ wsX7_idles := by decide +kernel
  have f7 := hts (.fieldLink RX7 7 "SortCasesModel" "s" "[I") (by decide +kernel)
  refine q_eqL (L' := [(0, .ref h0), (1, .int (nI n))]) rfl ?_
  refine q_aload_n C dX7_idles_0 1 0 rfl rfl ?_
  obtain rfl := hP
  have hPo1 : k_isP cI h0 aS aZ aV aN aU aD fd hh [(h0, .inr (6, [.int (fd 0), .ref aS, .ref aZ, .ref aV, .int (fd 4), .ref aN, .int (fd 6), .ref aU, .int (fd 8), .int (fd 9), .int (fd 10), .ref aD, .int (fd 12), .int (fd 13), .int (fd 14), .long hh]))] := rfl
  refine q_get (k := 0) (j := 0) (f := 1) C hinX7 f7 (fun _ h => h) (by decide) rfl dX7_idles_1 4 rfl rfl rfl rfl ?_
  refine q_iconst (v := nI 3) C dX7_idles_4 5 rfl (by decide) ?_
  refine q_iconst (v := -1) C dX7_idles_5 6 rfl (by decide) ?_
  obtain ⟨hat2, hok2, hlok2, f2, hm2, rfl⟩ := hQ
  have hll2 := hlok2.1
  have hQo2 : k_isQ cI aS bx at0 ln sc [(aS, .inl (cI, 350, .inl f2))] := ⟨hat2, hok2, hlok2, f2, hm2, rfl⟩
  refine q_iast (k := 1) (j := 0) C dX7_idles_6 7 rfl rfl rfl hcI 3 rfl (by omega) (by decide) [[(h0, .inr (6, [.int (fd 0), .ref aS, .ref aZ, .ref aV, .int (fd 4), .ref aN, .int (fd 6), .ref aU, .int (fd 8), .int (fd 9), .int (fd 10), .ref aD, .int (fd 12), .int (fd 13), .int (fd 14), .long hh]))], [(aS, .inl (cI, 350, .inl (upd f2 3 (-1))))]] rfl ?_
  have hmf3 : k_MR (upd f2 3 (-1)) bx at0 ln (upd sc 3 (-1)) := k_MR_sc hm2 (by decide) (by decide)
  have haf3 : at0 < 12 := hat2
  have hQf3 : k_isQ cI aS bx at0 ln (upd sc 3 (-1)) [(aS, .inl (cI, 350, .inl (upd f2 3 (-1))))] := ⟨haf3, hok2, hlok2, _, hmf3, rfl⟩
  refine q_aload_n C dX7_idles_7 8 0 rfl rfl ?_
  refine q_iload_n C dX7_idles_8 9 1 rfl rfl ?_
  refine q_callV (k := 0) (ci := 6) (n := 1) (rest := []) (Rr := []) C rfl (k_isP_recv hPo1) rfl (c_X7_beatsMany l hZ hI h0 aS aZ aV aN aU aD fd hh ([(h0, .inr (6, [.int (fd 0), .ref aS, .ref aZ, .ref aV, .int (fd 4), .ref aN, .int (fd 6), .ref aU, .int (fd 8), .int (fd 9), .int (fd 10), .ref aD, .int (fd 12), .int (fd 13), .int (fd 14), .long hh]))]) hPo1 bx at0 ln (upd sc 3 (-1)) ([(aS, .inl (cI, 350, .inl (upd f2 3 (-1))))]) hQf3 n (by omega)) gX7_idles_X7_beatsMany rfl rfl rfl (by decide +kernel) B.1 ⟨Nat.le_of_ble_eq_true rfl, Nat.le_of_ble_eq_true rfl⟩ rfl rfl (Nat.le_of_ble_eq_true rfl) dX7_idles_9 ⟨Nat.le_of_ble_eq_true rfl, Nat.le_of_ble_eq_true rfl⟩ [0, 1] [] (by decide : ([0, 1] ++ ([] : List Nat)).Perm (List.range 2)) rfl rfl 12 rfl (fun v0 R0 t0 ht0 hp0 => ?_)
  obtain ⟨rfl, wQ_9, hwQ_9, rfl⟩ := hp0
  refine q_eqs (st' := [.int (nI (k_cnt (k_bm bx at0 ((upd sc 3 (-1)) 3)) n))]) rfl ?_
  refine q_eqR (Rs' := [[(h0, .inr (6, [.int (fd 0), .ref aS, .ref aZ, .ref aV, .int (fd 4), .ref aN, .int (fd 6), .ref aU, .int (fd 8), .int (fd 9), .int (fd 10), .ref aD, .int (fd 12), .int (fd 13), .int (fd 14), .long hh]))], wQ_9]) rfl ?_
  exact q_iret C B dX7_idles_12 rfl rfl (fun t0 ht0 => ⟨rfl, _, hwQ_9, rfl⟩)

set_option maxHeartbeats 400000 in
set_option maxRecDepth 100000 in
theorem c_X7_boxFor (l : Launch) {D : va_G} {tys : List (ClassId × FieldType)} {Z : (Nat → Prop) → State → Heap → Prop} (hZ : q_St Z) {cI : ClassId} (hI : tys[0]? = some (cI, .int)) (h0 : Nat) (aS : Nat) (aZ : Nat) (aV : Nat) (aN : Nat) (aU : Nat) (aD : Nat) (fd : Nat → Int32) (hh : Int64) (wP : va_W) (hP : k_isP cI h0 aS aZ aV aN aU aD fd hh wP) (bx : k_Bx) (at0 : Nat) (ln : List (Nat × Nat)) (sc : Nat → Int32) (wQ : va_W) (hQ : k_isQ cI aS bx at0 ln sc wQ) (k : Nat) (hk : k < ln.length) : q_Ct l D tys Z yX7_boxFor wsX7_boxFor ({ frames := 1, cells := 0, slots := 0, locals := 42 } : Room) 0 0 [.ref h0, .int (nI k)] [wP, wQ] (fun v0 R0 _ => v0 = some (.int (nI (k_bb ln sc k))) ∧ R0 = [wP, wQ]) := by
  have hcI := hI
  refine q_ct (cc := cX7_boxFor) (maxL := 2) (ret := (some .int)) (own := RX7) (by decide) rfl hZ (Nat.le_of_ble_eq_true rfl) rfl ?_
  intro p9 e9 R s9 m9 args below meth c9 A Q C B
  have hts := C.2.2.2.2.1
  have hinX7 : ∀ w ∈ u_ws RX7 TX7 16, w ∈ wsX7_boxFor := by decide +kernel
  have f7 := hts (.fieldLink RX7 7 "SortCasesModel" "s" "[I") (by decide +kernel)
  refine q_eqL (L' := [(0, .ref h0), (1, .int (nI k))]) rfl ?_
  refine q_aload_n C dX7_boxFor_0 1 0 rfl rfl ?_
  obtain rfl := hP
  have hPo1 : k_isP cI h0 aS aZ aV aN aU aD fd hh [(h0, .inr (6, [.int (fd 0), .ref aS, .ref aZ, .ref aV, .int (fd 4), .ref aN, .int (fd 6), .ref aU, .int (fd 8), .int (fd 9), .int (fd 10), .ref aD, .int (fd 12), .int (fd 13), .int (fd 14), .long hh]))] := rfl
  refine q_get (k := 0) (j := 0) (f := 1) C hinX7 f7 (fun _ h => h) (by decide) rfl dX7_boxFor_1 4 rfl rfl rfl rfl ?_
  refine q_iconst (v := nI 2) C dX7_boxFor_4 5 rfl (by decide) ?_
  obtain ⟨hat2, hok2, hlok2, f2, hm2, rfl⟩ := hQ
  have hll2 := hlok2.1
  have hQo2 : k_isQ cI aS bx at0 ln sc [(aS, .inl (cI, 350, .inl f2))] := ⟨hat2, hok2, hlok2, f2, hm2, rfl⟩
  refine q_iald (k := 1) (j := 0) (v := sc 2) C dX7_boxFor_5 6 rfl rfl rfl hcI 2 rfl (by omega) (by decide) (hm2.1 2 (by decide) (by decide)) ?_
  refine q_iconst (v := nI 1) C dX7_boxFor_6 7 rfl (by decide) ?_
  refine q_icmp_ne C dX7_boxFor_7 10 22 rfl (by decide) Iff.rfl (fun h7 => ?_) (fun h7 => ?_)
  · refine q_aload_n C dX7_boxFor_22 23 0 rfl rfl ?_
    refine q_get (k := 0) (j := 0) (f := 1) C hinX7 f7 (fun _ h => h) (by decide) rfl dX7_boxFor_23 26 rfl rfl rfl rfl ?_
    refine q_bipush (v := nI 13) C dX7_boxFor_26 28 rfl (by decide) ?_
    refine q_iload_n C dX7_boxFor_28 29 1 rfl rfl ?_
    refine q_iadd (v := nI (k + 13)) C dX7_boxFor_29 30 rfl (q_nadd (by omega)) ?_
    refine q_iald (k := 1) (j := 0) (v := nI ((k_la ln k).1)) C dX7_boxFor_30 31 rfl rfl rfl hcI (k + 13) rfl (by omega) (by decide) ((hm2.2.2.2.1 k (by omega)).1) ?_
    have hla30_1 : (k_la ln k).1 < 12 := (k_la_lt hlok2 (by omega)).1
    exact q_iret C B dX7_boxFor_31 rfl rfl (fun t0 ht0 => ⟨by rw [k_bb_0 h7], rfl⟩)
  · refine q_aload_n C dX7_boxFor_10 11 0 rfl rfl ?_
    refine q_get (k := 0) (j := 0) (f := 1) C hinX7 f7 (fun _ h => h) (by decide) rfl dX7_boxFor_11 14 rfl rfl rfl rfl ?_
    refine q_bipush (v := nI 54) C dX7_boxFor_14 16 rfl (by decide) ?_
    refine q_iload_n C dX7_boxFor_16 17 1 rfl rfl ?_
    refine q_iadd (v := nI (k + 54)) C dX7_boxFor_17 18 rfl (q_nadd (by omega)) ?_
    refine q_iald (k := 1) (j := 0) (v := nI ((k_la ln k).2)) C dX7_boxFor_18 19 rfl rfl rfl hcI (k + 54) rfl (by omega) (by decide) ((hm2.2.2.2.1 k (by omega)).2) ?_
    have hla18_2 : (k_la ln k).2 < 12 := (k_la_lt hlok2 (by omega)).2
    refine q_goto C dX7_boxFor_19 31 (by decide) ?_
    exact q_iret C B dX7_boxFor_31 rfl rfl (fun t0 ht0 => ⟨by rw [k_bb_1 h7], rfl⟩)

set_option maxHeartbeats 400000 in
set_option maxRecDepth 100000 in
theorem c_X7_refusesFix (l : Launch) {D : va_G} {tys : List (ClassId × FieldType)} {Z : (Nat → Prop) → State → Heap → Prop} (hZ : q_St Z) {cI : ClassId} (hI : tys[0]? = some (cI, .int)) (h0 : Nat) (aS : Nat) (aZ : Nat) (aV : Nat) (aN : Nat) (aU : Nat) (aD : Nat) (fd : Nat → Int32) (hh : Int64) (wP : va_W) (hP : k_isP cI h0 aS aZ aV aN aU aD fd hh wP) (bx : k_Bx) (at0 : Nat) (ln : List (Nat × Nat)) (sc : Nat → Int32) (wQ : va_W) (hQ : k_isQ cI aS bx at0 ln sc wQ) (k : Nat) (hk : k < ln.length) : q_Ct l D tys Z yX7_refusesFix wsX7_refusesFix ({ frames := 3, cells := 0, slots := 0, locals := 102 } : Room) 0 0 [.ref h0, .int (nI k)] [wP, wQ] (fun v0 R0 _ => v0 = some (.int (nI (k_wc bx ln sc k))) ∧ R0 = [wP, wQ]) := by
  have hcI := hI
  refine q_ct (cc := cX7_refusesFix) (maxL := 2) (ret := (some .int)) (own := RX7) (by decide) rfl hZ (Nat.le_of_ble_eq_true rfl) rfl ?_
  intro p9 e9 R s9 m9 args below meth c9 A Q C B
  have hts := C.2.2.2.2.1
  have hinX7 : ∀ w ∈ u_ws RX7 TX7 16, w ∈ wsX7_refusesFix := by decide +kernel
  have f7 := hts (.fieldLink RX7 7 "SortCasesModel" "s" "[I") (by decide +kernel)
  refine q_eqL (L' := [(0, .ref h0), (1, .int (nI k))]) rfl ?_
  have hok := hQ.2.1
  have hlok := hQ.2.2.1
  refine q_aload_n C dX7_refusesFix_0 1 0 rfl rfl ?_
  refine q_iload_n C dX7_refusesFix_1 2 1 rfl rfl ?_
  refine q_callV (k := 0) (ci := 6) (n := 1) (rest := []) (Rr := []) C rfl (k_isP_recv hP) rfl (c_X7_isError l hZ hI h0 aS aZ aV aN aU aD fd hh wP hP bx at0 ln sc wQ hQ k (by omega)) gX7_refusesFix_X7_isError rfl rfl rfl (by decide +kernel) B.1 ⟨Nat.le_of_ble_eq_true rfl, Nat.le_of_ble_eq_true rfl⟩ rfl rfl (Nat.le_of_ble_eq_true rfl) dX7_refusesFix_2 ⟨Nat.le_of_ble_eq_true rfl, Nat.le_of_ble_eq_true rfl⟩ [0, 1] [] (by decide : ([0, 1] ++ ([] : List Nat)).Perm (List.range 2)) rfl rfl 5 rfl (fun v0 R0 t0 ht0 hp0 => ?_)
  obtain ⟨rfl, rfl⟩ := hp0
  refine q_eqs (st' := [.int (q_b (decide (¬ (k_la ln k).1 = (k_la ln k).2)))]) rfl ?_
  refine q_eqR (Rs' := [wP, wQ]) rfl ?_
  refine q_if_ne (P := ¬ (¬ (k_la ln k).1 = (k_la ln k).2)) C dX7_refusesFix_5 8 10 rfl (by decide) q_bd0 (fun h5 => ?_) (fun h5 => ?_)
  · refine q_aload_n C dX7_refusesFix_10 11 0 rfl rfl ?_
    refine q_aload_n C dX7_refusesFix_11 12 0 rfl rfl ?_
    obtain rfl := hP
    have hPo1 : k_isP cI h0 aS aZ aV aN aU aD fd hh [(h0, .inr (6, [.int (fd 0), .ref aS, .ref aZ, .ref aV, .int (fd 4), .ref aN, .int (fd 6), .ref aU, .int (fd 8), .int (fd 9), .int (fd 10), .ref aD, .int (fd 12), .int (fd 13), .int (fd 14), .long hh]))] := rfl
    refine q_get (k := 0) (j := 0) (f := 1) C hinX7 f7 (fun _ h => h) (by decide) rfl dX7_refusesFix_12 15 rfl rfl rfl rfl ?_
    refine q_bipush (v := nI 54) C dX7_refusesFix_15 17 rfl (by decide) ?_
    refine q_iload_n C dX7_refusesFix_17 18 1 rfl rfl ?_
    refine q_iadd (v := nI (k + 54)) C dX7_refusesFix_18 19 rfl (q_nadd (by omega)) ?_
    obtain ⟨hat2, hok2, hlok2, f2, hm2, rfl⟩ := hQ
    have hll2 := hlok2.1
    have hQo2 : k_isQ cI aS bx at0 ln sc [(aS, .inl (cI, 350, .inl f2))] := ⟨hat2, hok2, hlok2, f2, hm2, rfl⟩
    refine q_iald (k := 1) (j := 0) (v := nI ((k_la ln k).2)) C dX7_refusesFix_19 20 rfl rfl rfl hcI (k + 54) rfl (by omega) (by decide) ((hm2.2.2.2.1 k (by omega)).2) ?_
    have hla19_1 : (k_la ln k).2 < 12 := (k_la_lt hlok2 (by omega)).2
    refine q_callV (k := 0) (ci := 6) (n := 1) (rest := []) (Rr := []) C rfl (k_isP_recv hPo1) rfl (c_X7_right l hZ hI h0 aS aZ aV aN aU aD fd hh ([(h0, .inr (6, [.int (fd 0), .ref aS, .ref aZ, .ref aV, .int (fd 4), .ref aN, .int (fd 6), .ref aU, .int (fd 8), .int (fd 9), .int (fd 10), .ref aD, .int (fd 12), .int (fd 13), .int (fd 14), .long hh]))]) hPo1 bx at0 ln sc ([(aS, .inl (cI, 350, .inl f2))]) hQo2 ((k_la ln k).2) (by omega)) gX7_refusesFix_X7_right rfl rfl rfl (by decide +kernel) B.1 ⟨Nat.le_of_ble_eq_true rfl, Nat.le_of_ble_eq_true rfl⟩ rfl rfl (Nat.le_of_ble_eq_true rfl) dX7_refusesFix_20 ⟨Nat.le_of_ble_eq_true rfl, Nat.le_of_ble_eq_true rfl⟩ [0, 1] [] (by decide : ([0, 1] ++ ([] : List Nat)).Perm (List.range 2)) rfl rfl 23 rfl (fun v0 R0 t0 ht0 hp0 => ?_)
    obtain ⟨rfl, rfl⟩ := hp0
    refine q_eqs (st' := [.int (k_rv (k_rt bx ((k_la ln k).2)))]) rfl ?_
    refine q_eqR (Rs' := [[(h0, .inr (6, [.int (fd 0), .ref aS, .ref aZ, .ref aV, .int (fd 4), .ref aN, .int (fd 6), .ref aU, .int (fd 8), .int (fd 9), .int (fd 10), .ref aD, .int (fd 12), .int (fd 13), .int (fd 14), .long hh]))], [(aS, .inl (cI, 350, .inl f2))]]) rfl ?_
    refine q_topi (fun r20 hr20 => ?_)
    refine q_iconst (v := -1) C dX7_refusesFix_23 24 rfl (by decide) ?_
    refine q_icmp_ne C dX7_refusesFix_24 27 31 rfl (by decide) Iff.rfl (fun h24 => ?_) (fun h24 => ?_)
    · refine q_aload_n C dX7_refusesFix_31 32 0 rfl rfl ?_
      refine q_aload_n C dX7_refusesFix_32 33 0 rfl rfl ?_
      refine q_iload_n C dX7_refusesFix_33 34 1 rfl rfl ?_
      refine q_callV (k := 0) (ci := 6) (n := 1) (rest := [.ref h0]) (Rr := []) C rfl (k_isP_recv hPo1) rfl (c_X7_boxFor l hZ hI h0 aS aZ aV aN aU aD fd hh ([(h0, .inr (6, [.int (fd 0), .ref aS, .ref aZ, .ref aV, .int (fd 4), .ref aN, .int (fd 6), .ref aU, .int (fd 8), .int (fd 9), .int (fd 10), .ref aD, .int (fd 12), .int (fd 13), .int (fd 14), .long hh]))]) hPo1 bx at0 ln sc ([(aS, .inl (cI, 350, .inl f2))]) hQo2 k (by omega)) gX7_refusesFix_X7_boxFor rfl rfl rfl (by decide +kernel) B.1 ⟨Nat.le_of_ble_eq_true rfl, Nat.le_of_ble_eq_true rfl⟩ rfl rfl (Nat.le_of_ble_eq_true rfl) dX7_refusesFix_34 ⟨Nat.le_of_ble_eq_true rfl, Nat.le_of_ble_eq_true rfl⟩ [0, 1] [] (by decide : ([0, 1] ++ ([] : List Nat)).Perm (List.range 2)) rfl rfl 37 rfl (fun v0 R0 t0 ht0 hp0 => ?_)
      obtain ⟨rfl, rfl⟩ := hp0
      refine q_eqs (st' := [.int (nI (k_bb ln sc k)), .ref h0]) rfl ?_
      refine q_eqR (Rs' := [[(h0, .inr (6, [.int (fd 0), .ref aS, .ref aZ, .ref aV, .int (fd 4), .ref aN, .int (fd 6), .ref aU, .int (fd 8), .int (fd 9), .int (fd 10), .ref aD, .int (fd 12), .int (fd 13), .int (fd 14), .long hh]))], [(aS, .inl (cI, 350, .inl f2))]]) rfl ?_
      have ht34 : k_bb ln sc k < 12 := k_bb_lt hQo2.2.2.1 (by omega)
      refine q_callV (k := 0) (ci := 6) (n := 1) (rest := []) (Rr := []) C rfl (k_isP_recv hPo1) rfl (c_X7_many_q l hZ hI h0 aS aZ aV aN aU aD fd hh ([(h0, .inr (6, [.int (fd 0), .ref aS, .ref aZ, .ref aV, .int (fd 4), .ref aN, .int (fd 6), .ref aU, .int (fd 8), .int (fd 9), .int (fd 10), .ref aD, .int (fd 12), .int (fd 13), .int (fd 14), .long hh]))]) hPo1 bx at0 ln sc ([(aS, .inl (cI, 350, .inl f2))]) hQo2 (k_bb ln sc k) (by omega)) gX7_refusesFix_X7_many rfl rfl rfl (by decide +kernel) B.1 ⟨Nat.le_of_ble_eq_true rfl, Nat.le_of_ble_eq_true rfl⟩ rfl rfl (Nat.le_of_ble_eq_true rfl) dX7_refusesFix_37 ⟨Nat.le_of_ble_eq_true rfl, Nat.le_of_ble_eq_true rfl⟩ [0, 1] [] (by decide : ([0, 1] ++ ([] : List Nat)).Perm (List.range 2)) rfl rfl 40 rfl (fun v0 R0 t0 ht0 hp0 => ?_)
      obtain ⟨rfl, rfl⟩ := hp0
      refine q_eqs (st' := [.int (nI ((bx (k_bb ln sc k)).length))]) rfl ?_
      refine q_eqR (Rs' := [[(h0, .inr (6, [.int (fd 0), .ref aS, .ref aZ, .ref aV, .int (fd 4), .ref aN, .int (fd 6), .ref aU, .int (fd 8), .int (fd 9), .int (fd 10), .ref aD, .int (fd 12), .int (fd 13), .int (fd 14), .long hh]))], [(aS, .inl (cI, 350, .inl f2))]]) rfl ?_
      have hh37 : (bx (k_bb ln sc k)).length ≤ 20 := (hQo2.2.1 (k_bb ln sc k) (by omega)).1
      refine q_bipush (v := nI 20) C dX7_refusesFix_40 42 rfl (by decide) ?_
      refine q_icmp_ne C dX7_refusesFix_42 45 49 rfl (by decide) (nI_eq (by omega) (by omega)) (fun h42 => ?_) (fun h42 => ?_)
      · refine q_iconst (v := nI 0) C dX7_refusesFix_49 50 rfl (by decide) ?_
        exact q_iret C B dX7_refusesFix_50 rfl rfl (fun t0 ht0 => ⟨by rw [k_wc_0 (by omega) (fun z => h24 (hr20.trans ((k_rv_m1 (hok _ (by omega)).1).mpr z))) (by omega)], rfl⟩)
      · refine q_iconst (v := nI 5) C dX7_refusesFix_45 46 rfl (by decide) ?_
        refine q_goto C dX7_refusesFix_46 50 (by decide) ?_
        exact q_iret C B dX7_refusesFix_50 rfl rfl (fun t0 ht0 => ⟨by rw [k_wc_5 (by omega) (fun z => h24 (hr20.trans ((k_rv_m1 (hok _ (by omega)).1).mpr z))) (by omega)], rfl⟩)
    · refine q_iconst (v := nI 4) C dX7_refusesFix_27 28 rfl (by decide) ?_
      refine q_goto C dX7_refusesFix_28 50 (by decide) ?_
      exact q_iret C B dX7_refusesFix_50 rfl rfl (fun t0 ht0 => ⟨by rw [k_wc_4 (by omega) ((k_rv_m1 (hok _ (by omega)).1).mp (hr20.symm.trans h24))], rfl⟩)
  · refine q_iconst (v := nI 3) C dX7_refusesFix_8 9 rfl (by decide) ?_
    exact q_iret C B dX7_refusesFix_9 rfl rfl (fun t0 ht0 => ⟨by rw [k_wc_3 (by first | omega | exact Decidable.not_not.mp h5)], rfl⟩)
