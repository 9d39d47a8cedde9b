set_option maxHeartbeats 4000000 in
set_option maxRecDepth 100000 in
theorem c_X4_settingAt (l : Launch) {D : va_G} {tys : List (ClassId × FieldType)} {Z : (Nat → Prop) → State → Heap → Prop} (hZ : q_St Z) {cI : ClassId} (hI : tys[0]? = some (cI, .int)) (h0 : Nat) (aB : Nat) (aL : Nat) (aS : Nat) (sc : Nat → Int32) (wO : va_W) (hO : k_isO cI h0 aB aL aS sc wO) (wA : va_W) (hA : k_isA cI aS sc wA) (i : Nat) (hi : i < 3) : q_Ct l D tys Z yX4_settingAt wsX4_settingAt ({ frames := 1, cells := 0, slots := 0, locals := 42 } : Room) 0 0 [.ref h0, .int (nI i)] [wO, wA] (fun v0 R0 _ => v0 = some (.int (sc i)) ∧ R0 = [wO, wA]) := by
  have hcI := hI
  refine q_ct (cc := cX4_settingAt) (maxL := 2) (ret := (some .int)) (own := RX4) (by decide) rfl hZ (Nat.le_of_ble_eq_true rfl) rfl ?_
  intro p9 e9 R s9 m9 args below meth c9 A Q C B
  have hts := C.2.2.2.2.1
  have hinX4 : ∀ w ∈ u_ws RX4 TX4 11, w ∈ wsX4_settingAt := by decide +kernel
  have f25 := hts (.fieldLink RX4 25 "SortCases$State" "settings" "[I") (by decide +kernel)
  refine q_eqL (L' := [(0, .ref h0), (1, .int (nI i))]) rfl ?_
  obtain rfl := hO
  have hOo : k_isO cI h0 aB aL aS sc [(h0, .inr (3, [.ref aB, .ref aL, .ref aS, .int (sc 3), .int (sc 5), .int (sc 6), .int (sc 7), .int (sc 8), .int (sc 9), .int (sc 10), .int (sc 11)]))] := rfl
  obtain ⟨g, hg, rfl⟩ := hA
  have hAo : k_isA cI aS sc [(aS, .inl (cI, 3, .inl g))] := ⟨g, hg, rfl⟩
  refine q_iload_n C dX4_settingAt_0 1 1 rfl rfl ?_
  refine q_if_lt C dX4_settingAt_1 4 22 rfl (by decide) (q_lt0 (by omega)) (fun h1 => False.elim (by first | omega | simp_all)) (fun h1 => ?_)
  refine q_iload_n C dX4_settingAt_4 5 1 rfl rfl ?_
  refine q_aload_n C dX4_settingAt_5 6 0 rfl rfl ?_
  refine q_get (k := 0) (j := 0) (f := 2) C hinX4 f25 (fun _ h => h) (by decide) rfl dX4_settingAt_6 9 rfl rfl rfl rfl ?_
  refine q_alen (k := 1) (j := 0) (v := nI 3) C dX4_settingAt_9 10 rfl rfl rfl hcI rfl ?_
  refine q_icmp_ge C dX4_settingAt_10 13 22 rfl (by decide) (nI_leI (by omega) (by omega)) (fun h10 => False.elim (by first | omega | simp_all)) (fun h10 => ?_)
  refine q_aload_n C dX4_settingAt_13 14 0 rfl rfl ?_
  refine q_get (k := 0) (j := 0) (f := 2) C hinX4 f25 (fun _ h => h) (by decide) rfl dX4_settingAt_14 17 rfl rfl rfl rfl ?_
  refine q_iload_n C dX4_settingAt_17 18 1 rfl rfl ?_
  refine q_iald (k := 1) (j := 0) (v := sc i) C dX4_settingAt_18 19 rfl rfl rfl hcI i rfl (by omega) (by decide) (hg i (by omega)) ?_
  refine q_goto C dX4_settingAt_19 23 (by decide) ?_
  exact q_iret C B dX4_settingAt_23 rfl rfl (fun t0 ht0 => ⟨rfl, rfl⟩)

set_option maxHeartbeats 4000000 in
set_option maxRecDepth 100000 in
theorem c_X4_changeSetting (l : Launch) {D : va_G} {tys : List (ClassId × FieldType)} {Z : (Nat → Prop) → State → Heap → Prop} (hZ : q_St Z) {cI : ClassId} (hI : tys[0]? = some (cI, .int)) (h0 : Nat) (aB : Nat) (aL : Nat) (aS : Nat) (sc : Nat → Int32) (wO : va_W) (hO : k_isO cI h0 aB aL aS sc wO) (wA : va_W) (hA : k_isA cI aS sc wA) (i : Nat) (v : Int32) (hi : i < 3) : q_Ct l D tys Z yX4_changeSetting wsX4_changeSetting ({ frames := 2, cells := 0, slots := 0, locals := 72 } : Room) 0 0 [.ref h0, .int (nI i), .int v] [wO, wA] (fun v0 R0 _ => v0 = some (.int (sc i)) ∧ ∃ wO', k_isO cI h0 aB aL aS (upd (upd sc 3 (-1)) i v) wO' ∧ ∃ wA', k_isA cI aS (upd (upd sc 3 (-1)) i v) wA' ∧ R0 = [wO', wA']) := by
  have hcI := hI
  refine q_ct (cc := cX4_changeSetting) (maxL := 4) (ret := (some .int)) (own := RX4) (by decide) rfl hZ (Nat.le_of_ble_eq_true rfl) rfl ?_
  intro p9 e9 R s9 m9 args below meth c9 A Q C B
  have hts := C.2.2.2.2.1
  have hinX4 : ∀ w ∈ u_ws RX4 TX4 11, w ∈ wsX4_changeSetting := by decide +kernel
  have f29 := hts (.fieldLink RX4 29 "SortCases$State" "hand" "I") (by decide +kernel)
  have f25 := hts (.fieldLink RX4 25 "SortCases$State" "settings" "[I") (by decide +kernel)
  refine q_eqL (L' := [(0, .ref h0), (1, .int (nI i)), (2, .int v)]) rfl ?_
  obtain rfl := hO
  have hOo : k_isO cI h0 aB aL aS sc [(h0, .inr (3, [.ref aB, .ref aL, .ref aS, .int (sc 3), .int (sc 5), .int (sc 6), .int (sc 7), .int (sc 8), .int (sc 9), .int (sc 10), .int (sc 11)]))] := rfl
  obtain ⟨g, hg, rfl⟩ := hA
  have hAo : k_isA cI aS sc [(aS, .inl (cI, 3, .inl g))] := ⟨g, hg, rfl⟩
  refine q_aload_n C dX4_changeSetting_0 1 0 rfl rfl ?_
  refine q_iload_n C dX4_changeSetting_1 2 1 rfl rfl ?_
  refine q_callV (k := 0) (ci := 3) (n := 1) (rest := []) (Rr := []) C rfl (k_isO_recv hOo) rfl (c_X4_settingAt l hZ hI h0 aB aL aS sc ([(h0, .inr (3, [.ref aB, .ref aL, .ref aS, .int (sc 3), .int (sc 5), .int (sc 6), .int (sc 7), .int (sc 8), .int (sc 9), .int (sc 10), .int (sc 11)]))]) hOo ([(aS, .inl (cI, 3, .inl g))]) hAo i (by omega)) gX4_changeSetting_X4_settingAt rfl rfl rfl (by decide +kernel) B.1 ⟨Nat.le_of_ble_eq_true rfl, Nat.le_of_ble_eq_true rfl⟩ rfl rfl (Nat.le_of_ble_eq_true rfl) dX4_changeSetting_2 ⟨Nat.le_of_ble_eq_true rfl, Nat.le_of_ble_eq_true rfl⟩ [0, 1] [] (by decide : ([0, 1] ++ ([] : List Nat)).Perm (List.range 2)) rfl rfl 5 rfl (fun v0 R0 t0 ht0 hp0 => ?_)
  obtain ⟨rfl, rfl⟩ := hp0
  refine q_eqs (st' := [.int (sc i)]) rfl ?_
  refine q_eqR (Rs' := [[(h0, .inr (3, [.ref aB, .ref aL, .ref aS, .int (sc 3), .int (sc 5), .int (sc 6), .int (sc 7), .int (sc 8), .int (sc 9), .int (sc 10), .int (sc 11)]))], [(aS, .inl (cI, 3, .inl g))]]) rfl ?_
  refine q_topi (fun r2 hr2 => ?_)
  refine q_istore_n C dX4_changeSetting_5 6 rfl [(3, .int r2), (0, .ref h0), (1, .int (nI i)), (2, .int v)] (by decide) rfl ?_
  refine q_aload_n C dX4_changeSetting_6 7 1 rfl rfl ?_
  refine q_iconst (v := -1) C dX4_changeSetting_7 8 rfl (by decide) ?_
  refine q_put (k := 0) (j := 0) (f := 3) C hinX4 tyX4 tyX4_ok nmX4 f29 (fun _ h => h) (by decide) rfl rfl (tyX4_ok 3 (by decide)) rfl rfl dX4_changeSetting_8 11 rfl rfl rfl (Nat.le_of_ble_eq_true rfl) [[(h0, .inr (3, [.ref aB, .ref aL, .ref aS, .int (-1), .int (sc 5), .int (sc 6), .int (sc 7), .int (sc 8), .int (sc 9), .int (sc 10), .int (sc 11)]))], [(aS, .inl (cI, 3, .inl g))]] rfl ?_
  refine q_iload_n C dX4_changeSetting_11 12 2 rfl rfl ?_
  refine q_if_lt C dX4_changeSetting_12 15 31 rfl (by decide) (q_lt0 (by omega)) (fun h12 => False.elim (by first | omega | simp_all)) (fun h12 => ?_)
  refine q_iload_n C dX4_changeSetting_15 16 2 rfl rfl ?_
  refine q_aload_n C dX4_changeSetting_16 17 1 rfl rfl ?_
  refine q_get (k := 0) (j := 0) (f := 2) C hinX4 f25 (fun _ h => h) (by decide) rfl dX4_changeSetting_17 20 rfl rfl rfl rfl ?_
  refine q_alen (k := 1) (j := 0) (v := nI 3) C dX4_changeSetting_20 21 rfl rfl rfl hcI rfl ?_
  refine q_icmp_ge C dX4_changeSetting_21 24 31 rfl (by decide) (nI_leI (by omega) (by omega)) (fun h21 => False.elim (by first | omega | simp_all)) (fun h21 => ?_)
  refine q_aload_n C dX4_changeSetting_24 25 1 rfl rfl ?_
  refine q_get (k := 0) (j := 0) (f := 2) C hinX4 f25 (fun _ h => h) (by decide) rfl dX4_changeSetting_25 28 rfl rfl rfl rfl ?_
  refine q_iload_n C dX4_changeSetting_28 29 2 rfl rfl ?_
  refine q_iload_n C dX4_changeSetting_29 30 3 rfl rfl ?_
  refine q_iast (k := 1) (j := 0) C dX4_changeSetting_30 31 rfl rfl rfl hcI i rfl (by omega) (by decide) [[(h0, .inr (3, [.ref aB, .ref aL, .ref aS, .int (-1), .int (sc 5), .int (sc 6), .int (sc 7), .int (sc 8), .int (sc 9), .int (sc 10), .int (sc 11)]))], [(aS, .inl (cI, 3, .inl (upd g i v)))]] rfl ?_
  refine q_iload_n C dX4_changeSetting_31 32 0 rfl rfl ?_
  exact q_iret C B dX4_changeSetting_32 rfl rfl (fun t0 ht0 => ⟨by rw [hr2], _, k_isO_cong (sc := upd sc 3 (-1)) rfl (fun k hk => pk_un (by omega)), _, ⟨upd g i v, fun j hj => (Decidable.em (j = i)).elim (fun e => by subst e; rw [pk_us, pk_us]) (fun e => by rw [pk_un e, pk_un e, pk_un (by omega)]; exact hg j hj), rfl⟩, rfl⟩)

set_option maxHeartbeats 4000000 in
set_option maxRecDepth 100000 in
theorem c_X4_whyNotSet (l : Launch) {D : va_G} {tys : List (ClassId × FieldType)} {Z : (Nat → Prop) → State → Heap → Prop} (hZ : q_St Z) {cI : ClassId} (hI : tys[0]? = some (cI, .int)) (hN : q_Ns Z) (h0 : Nat) (aB : Nat) (aL : Nat) (aS : Nat) (sc : Nat → Int32) (wO : va_W) (hO : k_isO cI h0 aB aL aS sc wO) (wA : va_W) (hA : k_isA cI aS sc wA) (bx : k_Bx) (at0 : Nat) (wB : va_W) (hB : k_isB cI aB bx at0 wB) (ln : List (Nat × Nat)) (wL : va_W) (hL : k_isL cI aL ln wL) (c : Nat) (hc : c < 12) : q_Ct l D tys Z yX4_whyNotSet wsX4_whyNotSet ({ frames := 3, cells := 0, slots := 0, locals := 102 } : Room) 0 0 [.ref h0, .int (nI c)] [wO, wA, wB, wL] (fun v0 R0 _ => v0 = some (.int (nI (k_wn bx ln sc c))) ∧ R0 = [wO, wA, wB, wL]) := by
  have hcI := hI
  refine q_ct (cc := cX4_whyNotSet) (maxL := 4) (ret := (some .int)) (own := RX4) (by decide) rfl hZ (Nat.le_of_ble_eq_true rfl) rfl ?_
  intro p9 e9 R s9 m9 args below meth c9 A Q C B
  have hts := C.2.2.2.2.1
  have hinX4 : ∀ w ∈ u_ws RX4 TX4 11, w ∈ wsX4_whyNotSet := by decide +kernel
  have f12 := hts (.fieldLink RX4 12 "SortCases$State" "boxes" "LSortCases$Boxes;") (by decide +kernel)
  have f21 := hts (.fieldLink RX4 21 "SortCases$State" "line" "LSortCases$Line;") (by decide +kernel)
  have nst_X6_widthOf := q_nst hN C (by decide +kernel : Cond.methodLinkNest "SortCases$State" 73 yX6_widthOf "SortCases" ∈ q_nest)
  have iniX6 := hts (.initialized RX6) (by decide +kernel)
  have sta_X6_widthOf := hts (.static yX6_widthOf) (by decide +kernel)
  refine q_eqL (L' := [(0, .ref h0), (1, .int (nI c))]) rfl ?_
  obtain rfl := hO
  have hOo : k_isO cI h0 aB aL aS sc [(h0, .inr (3, [.ref aB, .ref aL, .ref aS, .int (sc 3), .int (sc 5), .int (sc 6), .int (sc 7), .int (sc 8), .int (sc 9), .int (sc 10), .int (sc 11)]))] := rfl
  have hok := hB.2.1
  have hlok := hL.1
  have hll := hlok.1
  refine q_aload_n C dX4_whyNotSet_0 1 0 rfl rfl ?_
  refine q_get (k := 0) (j := 0) (f := 0) C hinX4 f12 (fun _ h => h) (by decide) rfl dX4_whyNotSet_1 4 rfl rfl rfl rfl ?_
  refine q_iload_n C dX4_whyNotSet_4 5 1 rfl rfl ?_
  refine q_iconst (v := nI 0) C dX4_whyNotSet_5 6 rfl (by decide) ?_
  refine q_callV (k := 2) (ci := 0) (n := 2) (rest := []) (Rr := [[(h0, .inr (3, [.ref aB, .ref aL, .ref aS, .int (sc 3), .int (sc 5), .int (sc 6), .int (sc 7), .int (sc 8), .int (sc 9), .int (sc 10), .int (sc 11)]))], wA, wL]) C rfl (k_isB_recv hB) rfl (c_X0_typeAt l hZ hI aB bx at0 wB hB c 0 (by omega) (by omega)) gX4_whyNotSet_X0_typeAt rfl rfl rfl (by decide +kernel) B.1 ⟨Nat.le_of_ble_eq_true rfl, Nat.le_of_ble_eq_true rfl⟩ rfl rfl (Nat.le_of_ble_eq_true rfl) dX4_whyNotSet_6 ⟨Nat.le_of_ble_eq_true rfl, Nat.le_of_ble_eq_true rfl⟩ [2] [0, 1, 3] (by decide : ([2] ++ ([0, 1, 3] : List Nat)).Perm (List.range 4)) rfl rfl 9 rfl (fun v0 R0 t0 ht0 hp0 => ?_)
  obtain ⟨rfl, rfl⟩ := hp0
  refine q_eqs (st' := [.int (k_top bx c 0)]) rfl ?_
  refine q_reord [1, 2, 0, 3] (by decide : ([1, 2, 0, 3] : List Nat).Perm (List.range 4)) (Rs' := [[(h0, .inr (3, [.ref aB, .ref aL, .ref aS, .int (sc 3), .int (sc 5), .int (sc 6), .int (sc 7), .int (sc 8), .int (sc 9), .int (sc 10), .int (sc 11)]))], wA, wB, wL]) rfl rfl ?_
  refine q_topi (fun r6 hr6 => ?_)
  rcases Nat.eq_zero_or_pos (bx c).length with he1 | he1
  · rw [k_top_none (by omega)] at hr6; subst hr6
    refine q_istore_n C dX4_whyNotSet_9 10 rfl [(2, .int (-1)), (0, .ref h0), (1, .int (nI c))] (by decide) rfl ?_
    refine q_iload_n C dX4_whyNotSet_10 11 0 rfl rfl ?_
    refine q_iconst (v := -1) C dX4_whyNotSet_11 12 rfl (by decide) ?_
    refine q_icmp_ne (P := True) C dX4_whyNotSet_12 15 17 rfl (by decide) ⟨fun _ => trivial, fun _ => rfl⟩ (fun h12 => False.elim (by first | omega | simp_all)) (fun h12 => ?_)
    refine q_iconst (v := nI 1) C dX4_whyNotSet_15 16 rfl (by decide) ?_
    exact q_iret C B dX4_whyNotSet_16 rfl rfl (fun t0 ht0 => ⟨by rw [k_wn_1 he1], rfl⟩)
  · have hx1 : r6 = nI (k_x bx c) := hr6.trans (k_top_some he1)
    have hxl1 := k_x_lt hok (by omega) he1
    obtain ⟨x, ex1⟩ : ∃ x, x = k_x bx c := ⟨_, rfl⟩
    rw [← ex1] at hx1 hxl1
    subst hx1
    refine q_istore_n C dX4_whyNotSet_9 10 rfl [(2, .int (nI x)), (0, .ref h0), (1, .int (nI c))] (by decide) rfl ?_
    refine q_iload_n C dX4_whyNotSet_10 11 0 rfl rfl ?_
    refine q_iconst (v := -1) C dX4_whyNotSet_11 12 rfl (by decide) ?_
    refine q_icmp_ne (P := False) C dX4_whyNotSet_12 15 17 rfl (by decide) (q_m1 (by omega)) (fun h12 => ?_) (fun h12 => False.elim (by first | omega | simp_all))
    refine q_aload_n C dX4_whyNotSet_17 18 1 rfl rfl ?_
    refine q_get (k := 0) (j := 0) (f := 1) C hinX4 f21 (fun _ h => h) (by decide) rfl dX4_whyNotSet_18 21 rfl rfl rfl rfl ?_
    refine q_callV (k := 3) (ci := 2) (n := 0) (rest := []) (Rr := [[(h0, .inr (3, [.ref aB, .ref aL, .ref aS, .int (sc 3), .int (sc 5), .int (sc 6), .int (sc 7), .int (sc 8), .int (sc 9), .int (sc 10), .int (sc 11)]))], wA, wB]) C rfl (k_isL_recv hL) rfl (c_X2_nextPosition l hZ hI hN aL ln wL hL) gX4_whyNotSet_X2_nextPosition rfl rfl rfl (by decide +kernel) B.1 ⟨Nat.le_of_ble_eq_true rfl, Nat.le_of_ble_eq_true rfl⟩ rfl rfl (Nat.le_of_ble_eq_true rfl) dX4_whyNotSet_21 ⟨Nat.le_of_ble_eq_true rfl, Nat.le_of_ble_eq_true rfl⟩ [3] [0, 1, 2] (by decide : ([3] ++ ([0, 1, 2] : List Nat)).Perm (List.range 4)) rfl rfl 24 rfl (fun v0 R0 t0 ht0 hp0 => ?_)
    obtain ⟨rfl, rfl⟩ := hp0
    refine q_eqs (st' := [.int (nI (k_np ln))]) rfl ?_
    refine q_reord [1, 2, 3, 0] (by decide : ([1, 2, 3, 0] : List Nat).Perm (List.range 4)) (Rs' := [[(h0, .inr (3, [.ref aB, .ref aL, .ref aS, .int (sc 3), .int (sc 5), .int (sc 6), .int (sc 7), .int (sc 8), .int (sc 9), .int (sc 10), .int (sc 11)]))], wA, wB, wL]) rfl rfl ?_
    have hc21 : k_np ln ≤ 5 * (ln).length := (k_np_le _).2
    have hd21 : 3 * (ln).length ≤ k_np ln := (k_np_le _).1
    refine q_iload_n C dX4_whyNotSet_24 25 0 rfl rfl ?_
    refine q_callSN (n := 1) (rest := [.int (nI (k_np ln))]) (Rr := [[(h0, .inr (3, [.ref aB, .ref aL, .ref aS, .int (sc 3), .int (sc 5), .int (sc 6), .int (sc 7), .int (sc 8), .int (sc 9), .int (sc 10), .int (sc 11)]))], wA, wB, wL]) C (c_X6_widthOf l hZ hI x (by omega)) gX4_whyNotSet_X6_widthOf_n73 rfl rfl rfl nst_X6_widthOf iniX6 (sta_X6_widthOf) (by decide +kernel) B.1 ⟨Nat.le_of_ble_eq_true rfl, Nat.le_of_ble_eq_true rfl⟩ rfl rfl (Nat.le_of_ble_eq_true rfl) dX4_whyNotSet_25 ⟨Nat.le_of_ble_eq_true rfl, Nat.le_of_ble_eq_true rfl⟩ [] [0, 1, 2, 3] (by decide : ([] ++ ([0, 1, 2, 3] : List Nat)).Perm (List.range 4)) rfl rfl 28 rfl (fun v0 R0 t0 ht0 hp0 => ?_)
    obtain ⟨rfl, rfl⟩ := hp0
    refine q_eqs (st' := [.int (nI (k_wd x)), .int (nI (k_np ln))]) rfl ?_
    refine q_eqR (Rs' := [[(h0, .inr (3, [.ref aB, .ref aL, .ref aS, .int (sc 3), .int (sc 5), .int (sc 6), .int (sc 7), .int (sc 8), .int (sc 9), .int (sc 10), .int (sc 11)]))], wA, wB, wL]) rfl ?_
    have hw25 : k_wd x ≤ 4 := (k_wd_le _).2
    refine q_iadd (v := nI (k_np ln + k_wd x)) C dX4_whyNotSet_28 29 rfl (q_nadd (by omega)) ?_
    refine q_istore_n C dX4_whyNotSet_29 30 rfl [(3, .int (nI (k_np ln + k_wd x))), (2, .int (nI x)), (0, .ref h0), (1, .int (nI c))] (by decide) rfl ?_
    refine q_iload_n C dX4_whyNotSet_30 31 0 rfl rfl ?_
    refine q_aload_n C dX4_whyNotSet_31 32 2 rfl rfl ?_
    refine q_iconst (v := nI 0) C dX4_whyNotSet_32 33 rfl (by decide) ?_
    refine q_callV (k := 0) (ci := 3) (n := 1) (rest := [.int (nI (k_np ln + k_wd x))]) (Rr := [wB, wL]) C rfl (k_isO_recv hOo) rfl (c_X4_settingAt l hZ hI h0 aB aL aS sc ([(h0, .inr (3, [.ref aB, .ref aL, .ref aS, .int (sc 3), .int (sc 5), .int (sc 6), .int (sc 7), .int (sc 8), .int (sc 9), .int (sc 10), .int (sc 11)]))]) hOo wA hA 0 (by omega)) gX4_whyNotSet_X4_settingAt rfl rfl rfl (by decide +kernel) B.1 ⟨Nat.le_of_ble_eq_true rfl, Nat.le_of_ble_eq_true rfl⟩ rfl rfl (Nat.le_of_ble_eq_true rfl) dX4_whyNotSet_33 ⟨Nat.le_of_ble_eq_true rfl, Nat.le_of_ble_eq_true rfl⟩ [0, 1] [2, 3] (by decide : ([0, 1] ++ ([2, 3] : List Nat)).Perm (List.range 4)) rfl rfl 36 rfl (fun v0 R0 t0 ht0 hp0 => ?_)
    obtain ⟨rfl, rfl⟩ := hp0
    refine q_eqs (st' := [.int (sc 0), .int (nI (k_np ln + k_wd x))]) rfl ?_
    refine q_eqR (Rs' := [[(h0, .inr (3, [.ref aB, .ref aL, .ref aS, .int (sc 3), .int (sc 5), .int (sc 6), .int (sc 7), .int (sc 8), .int (sc 9), .int (sc 10), .int (sc 11)]))], wA, wB, wL]) rfl ?_
    refine q_topi (fun r33 hr33 => ?_)
    refine q_icmp_le C dX4_whyNotSet_36 39 43 rfl (by decide) Iff.rfl (fun h36 => ?_) (fun h36 => ?_)
    · refine q_iconst (v := nI 0) C dX4_whyNotSet_43 44 rfl (by decide) ?_
      exact q_iret C B dX4_whyNotSet_44 rfl rfl (fun t0 ht0 => ⟨by rw [k_wn_0 he1 (by rw [← ex1, ← hr33]; exact h36)], rfl⟩)
    · refine q_iconst (v := nI 2) C dX4_whyNotSet_39 40 rfl (by decide) ?_
      refine q_goto C dX4_whyNotSet_40 44 (by decide) ?_
      exact q_iret C B dX4_whyNotSet_44 rfl rfl (fun t0 ht0 => ⟨by rw [k_wn_2 he1 (by rw [← ex1, ← hr33]; exact h36)], rfl⟩)

set_option maxHeartbeats 4000000 in
set_option maxRecDepth 100000 in
theorem c_X4_passBeats (l : Launch) {D : va_G} {tys : List (ClassId × FieldType)} {Z : (Nat → Prop) → State → Heap → Prop} (hZ : q_St Z) {cI : ClassId} (hI : tys[0]? = some (cI, .int)) (h0 : Nat) (aB : Nat) (aL : Nat) (aS : Nat) (sc : Nat → Int32) (wO : va_W) (hO : k_isO cI h0 aB aL aS sc wO) (wA : va_W) (hA : k_isA cI aS sc wA) (bx : k_Bx) (at0 : Nat) (wB : va_W) (hB : k_isB cI aB bx at0 wB) (n : Nat) (hn : n < 2147483648) : q_Ct l D tys Z yX4_passBeats wsX4_passBeats ({ frames := 3, cells := 0, slots := 0, locals := 102 } : Room) 0 0 [.ref h0, .int (nI n)] [wO, wA, wB] (fun v0 R0 _ => v0 = some (.int (nI (k_cnt (k_bm bx at0 (sc 3)) n))) ∧ ∃ wO', k_isO cI h0 aB aL aS (k_psc bx at0 sc n) wO' ∧ ∃ wA', k_isA cI aS (k_psc bx at0 sc n) wA' ∧ ∃ wB', k_isB cI aB ((k_bs bx at0 (sc 3) n).1) ((k_bs bx at0 (sc 3) n).2) wB' ∧ R0 = [wO', wA', wB']) := by
  have hcI := hI
  refine q_ct (cc := cX4_passBeats) (maxL := 4) (ret := (some .int)) (own := RX4) (by decide) rfl hZ (Nat.le_of_ble_eq_true rfl) rfl ?_
  intro p9 e9 R s9 m9 args below meth c9 A Q C B
  have hts := C.2.2.2.2.1
  have hinX4 : ∀ w ∈ u_ws RX4 TX4 11, w ∈ wsX4_passBeats := by decide +kernel
  have f36 := hts (.fieldLink RX4 36 "SortCases$State" "typesMoved" "I") (by decide +kernel)
  have f12 := hts (.fieldLink RX4 12 "SortCases$State" "boxes" "LSortCases$Boxes;") (by decide +kernel)
  have f29 := hts (.fieldLink RX4 29 "SortCases$State" "hand" "I") (by decide +kernel)
  have f39 := hts (.fieldLink RX4 39 "SortCases$State" "beatsPassed" "I") (by decide +kernel)
  refine q_eqL (L' := [(0, .ref h0), (1, .int (nI n))]) rfl ?_
  obtain rfl := hO
  have hOo : k_isO cI h0 aB aL aS sc [(h0, .inr (3, [.ref aB, .ref aL, .ref aS, .int (sc 3), .int (sc 5), .int (sc 6), .int (sc 7), .int (sc 8), .int (sc 9), .int (sc 10), .int (sc 11)]))] := rfl
  refine q_iconst (v := nI 0) C dX4_passBeats_0 1 rfl (by decide) ?_
  refine q_istore_n C dX4_passBeats_1 2 rfl [(2, .int (nI 0)), (0, .ref h0), (1, .int (nI n))] (by decide) rfl ?_
  refine q_iconst (v := nI 0) C dX4_passBeats_2 3 rfl (by decide) ?_
  refine q_istore_n C dX4_passBeats_3 4 rfl [(3, .int (nI 0)), (2, .int (nI 0)), (0, .ref h0), (1, .int (nI n))] (by decide) rfl ?_
  have lp : ∀ (kk : Nat) (i : Nat) (k : Nat) (z : Int32) (wb : va_W), n - i < kk → ∀ (hi : i ≤ n), ∀ (hk : k = k_cnt (k_bm bx at0 (sc 3)) i), ∀ (hz : z = sc 7 + nI i), ∀ (hwb : k_isB cI aB (k_bs bx at0 (sc 3) i).1 (k_bs bx at0 (sc 3) i).2 wb), q_V p9 l e9 R s9 m9 args below meth c9 D A 4 Q 0 0 4 [(3, .int (nI i)), (2, .int (nI k)), (0, .ref h0), (1, .int (nI n))] [] [[(h0, .inr (3, [.ref aB, .ref aL, .ref aS, .int (sc 3), .int (sc 5), .int (sc 6), .int z, .int (sc 8), .int (sc 9), .int (sc 10), .int (sc 11)]))], wA, wb] := by
    intro kk
    induction kk with
    | zero => intro i k z wb hkk; exact absurd hkk (Nat.not_lt_zero _)
    | succ kk ih_lp =>
      intro i k z wb hkk hi hk hz hwb
      refine q_iload_n C dX4_passBeats_4 5 0 rfl rfl ?_
      refine q_iload_n C dX4_passBeats_5 6 3 rfl rfl ?_
      refine q_icmp_ge C dX4_passBeats_6 9 42 rfl (by decide) (nI_leI (by omega) (by omega)) (fun h6 => ?_) (fun h6 => ?_)
      · refine q_aload_n C dX4_passBeats_42 43 2 rfl rfl ?_
        refine q_dup C dX4_passBeats_43 44 rfl rfl ?_
        refine q_get (k := 0) (j := 0) (f := 5) C hinX4 f36 (fun _ h => h) (by decide) rfl dX4_passBeats_44 47 rfl rfl rfl rfl ?_
        refine q_iload_n C dX4_passBeats_47 48 1 rfl rfl ?_
        refine q_iadd (v := (sc 6) + (nI k)) C dX4_passBeats_48 49 rfl rfl ?_
        refine q_put (k := 0) (j := 0) (f := 5) C hinX4 tyX4 tyX4_ok nmX4 f36 (fun _ h => h) (by decide) rfl rfl (tyX4_ok 5 (by decide)) rfl rfl dX4_passBeats_49 52 rfl rfl rfl (Nat.le_of_ble_eq_true rfl) [[(h0, .inr (3, [.ref aB, .ref aL, .ref aS, .int (sc 3), .int (sc 5), .int ((sc 6) + (nI k)), .int z, .int (sc 8), .int (sc 9), .int (sc 10), .int (sc 11)]))], wA, wb] rfl ?_
        refine q_iload_n C dX4_passBeats_52 53 1 rfl rfl ?_
        obtain rfl : i = n := by omega
        subst hz
        subst hk
        exact q_iret C B dX4_passBeats_53 rfl rfl (fun t0 ht0 => ⟨rfl, _, rfl, _, k_isA_upd (k_isA_upd hA (by decide)) (by decide), _, hwb, by first | rfl | simp⟩)
      · refine q_aload_n C dX4_passBeats_9 10 2 rfl rfl ?_
        refine q_get (k := 0) (j := 0) (f := 0) C hinX4 f12 (fun _ h => h) (by decide) rfl dX4_passBeats_10 13 rfl rfl rfl rfl ?_
        refine q_aload_n C dX4_passBeats_13 14 2 rfl rfl ?_
        refine q_get (k := 0) (j := 0) (f := 3) C hinX4 f29 (fun _ h => h) (by decide) rfl dX4_passBeats_14 17 rfl rfl rfl rfl ?_
        refine q_callV (k := 2) (ci := 0) (n := 1) (rest := []) (Rr := [[(h0, .inr (3, [.ref aB, .ref aL, .ref aS, .int (sc 3), .int (sc 5), .int (sc 6), .int z, .int (sc 8), .int (sc 9), .int (sc 10), .int (sc 11)]))], wA]) C rfl (k_isB_recv hwb) rfl (c_X0_sortInOneBeat l hZ hI aB ((k_bs bx at0 (sc 3) i).1) ((k_bs bx at0 (sc 3) i).2) wb hwb (sc 3)) gX4_passBeats_X0_sortInOneBeat rfl rfl rfl (by decide +kernel) B.1 ⟨Nat.le_of_ble_eq_true rfl, Nat.le_of_ble_eq_true rfl⟩ rfl rfl (Nat.le_of_ble_eq_true rfl) dX4_passBeats_17 ⟨Nat.le_of_ble_eq_true rfl, Nat.le_of_ble_eq_true rfl⟩ [2] [0, 1] (by decide : ([2] ++ ([0, 1] : List Nat)).Perm (List.range 3)) rfl rfl 20 rfl (fun v0 R0 t0 ht0 hp0 => ?_)
        obtain ⟨rfl, w_17, hw_17, rfl⟩ := hp0
        refine q_eqs (st' := [.int (q_b (k_mv ((k_bs bx at0 (sc 3) i).1) ((k_bs bx at0 (sc 3) i).2) (sc 3)))]) rfl ?_
        refine q_reord [1, 2, 0] (by decide : ([1, 2, 0] : List Nat).Perm (List.range 3)) (Rs' := [[(h0, .inr (3, [.ref aB, .ref aL, .ref aS, .int (sc 3), .int (sc 5), .int (sc 6), .int z, .int (sc 8), .int (sc 9), .int (sc 10), .int (sc 11)]))], wA, w_17]) rfl rfl ?_
        refine q_if_eq (P := k_mv ((k_bs bx at0 (sc 3) i).1) ((k_bs bx at0 (sc 3) i).2) (sc 3) = false) C dX4_passBeats_20 23 26 rfl (by decide) q_b0 (fun h20 => ?_) (fun h20 => ?_)
        · refine q_aload_n C dX4_passBeats_26 27 2 rfl rfl ?_
          refine q_dup C dX4_passBeats_27 28 rfl rfl ?_
          refine q_get (k := 0) (j := 0) (f := 6) C hinX4 f39 (fun _ h => h) (by decide) rfl dX4_passBeats_28 31 rfl rfl rfl rfl ?_
          refine q_iconst (v := nI 1) C dX4_passBeats_31 32 rfl (by decide) ?_
          refine q_iadd (v := z + (nI 1)) C dX4_passBeats_32 33 rfl rfl ?_
          refine q_put (k := 0) (j := 0) (f := 6) C hinX4 tyX4 tyX4_ok nmX4 f39 (fun _ h => h) (by decide) rfl rfl (tyX4_ok 6 (by decide)) rfl rfl dX4_passBeats_33 36 rfl rfl rfl (Nat.le_of_ble_eq_true rfl) [[(h0, .inr (3, [.ref aB, .ref aL, .ref aS, .int (sc 3), .int (sc 5), .int (sc 6), .int (z + (nI 1)), .int (sc 8), .int (sc 9), .int (sc 10), .int (sc 11)]))], wA, w_17] rfl ?_
          refine q_iinc (v := nI (i + 1)) C dX4_passBeats_36 39 0 rfl rfl (q_ninc1 (by omega)) [(3, .int (nI (i + 1))), (2, .int (nI k)), (0, .ref h0), (1, .int (nI n))] (by decide) rfl ?_
          refine q_goto C dX4_passBeats_39 4 (by decide) ?_
          refine q_sub (L' := [(3, .int (nI (i + 1))), (2, .int (nI k)), (0, .ref h0), (1, .int (nI n))]) [0, 1, 2, 3] rfl ?_
          exact ih_lp (i + 1) k (z + (nI 1)) w_17 (by omega) (by omega) (by rw [k_cnt_f (by simpa [k_bm] using h20)]; exact hk) (q_accs hz) hw_17
        · refine q_iinc (v := nI (k + 1)) C dX4_passBeats_23 26 1 rfl rfl (q_ninc1 (by omega)) [(2, .int (nI (k + 1))), (3, .int (nI i)), (0, .ref h0), (1, .int (nI n))] (by decide) rfl ?_
          refine q_aload_n C dX4_passBeats_26 27 2 rfl rfl ?_
          refine q_dup C dX4_passBeats_27 28 rfl rfl ?_
          refine q_get (k := 0) (j := 0) (f := 6) C hinX4 f39 (fun _ h => h) (by decide) rfl dX4_passBeats_28 31 rfl rfl rfl rfl ?_
          refine q_iconst (v := nI 1) C dX4_passBeats_31 32 rfl (by decide) ?_
          refine q_iadd (v := z + (nI 1)) C dX4_passBeats_32 33 rfl rfl ?_
          refine q_put (k := 0) (j := 0) (f := 6) C hinX4 tyX4 tyX4_ok nmX4 f39 (fun _ h => h) (by decide) rfl rfl (tyX4_ok 6 (by decide)) rfl rfl dX4_passBeats_33 36 rfl rfl rfl (Nat.le_of_ble_eq_true rfl) [[(h0, .inr (3, [.ref aB, .ref aL, .ref aS, .int (sc 3), .int (sc 5), .int (sc 6), .int (z + (nI 1)), .int (sc 8), .int (sc 9), .int (sc 10), .int (sc 11)]))], wA, w_17] rfl ?_
          refine q_iinc (v := nI (i + 1)) C dX4_passBeats_36 39 1 rfl rfl (q_ninc1 (by omega)) [(3, .int (nI (i + 1))), (2, .int (nI (k + 1))), (0, .ref h0), (1, .int (nI n))] (by decide) rfl ?_
          refine q_goto C dX4_passBeats_39 4 (by decide) ?_
          refine q_sub (L' := [(3, .int (nI (i + 1))), (2, .int (nI (k + 1))), (0, .ref h0), (1, .int (nI n))]) [0, 1, 2, 3] rfl ?_
          exact ih_lp (i + 1) (k + 1) (z + (nI 1)) w_17 (by omega) (by omega) (by rw [k_cnt_t (by simpa [k_bm] using h20), hk]) (q_accs hz) hw_17
  refine q_sub (L' := [(3, .int (nI 0)), (2, .int (nI 0)), (0, .ref h0), (1, .int (nI n))]) [0, 1, 2, 3] rfl ?_
  exact lp _ 0 0 (sc 7) wB (Nat.lt_succ_self _) (by omega) rfl (q_add0 _) hB

set_option maxHeartbeats 4000000 in
set_option maxRecDepth 100000 in
theorem c_X4_rest (l : Launch) {D : va_G} {tys : List (ClassId × FieldType)} {Z : (Nat → Prop) → State → Heap → Prop} (hZ : q_St Z) {cI : ClassId} (hI : tys[0]? = some (cI, .int)) (h0 : Nat) (aB : Nat) (aL : Nat) (aS : Nat) (sc : Nat → Int32) (wO : va_W) (hO : k_isO cI h0 aB aL aS sc wO) (wA : va_W) (hA : k_isA cI aS sc wA) (bx : k_Bx) (at0 : Nat) (wB : va_W) (hB : k_isB cI aB bx at0 wB) (n : Nat) (hn : n < 2147483648) : q_Ct l D tys Z yX4_rest wsX4_rest ({ frames := 4, cells := 0, slots := 0, locals := 132 } : Room) 0 0 [.ref h0, .int (nI n)] [wO, wA, wB] (fun v0 R0 _ => v0 = some (.int (nI (k_cnt (k_bm bx at0 (-1)) n))) ∧ ∃ wO', k_isO cI h0 aB aL aS (k_psc bx at0 (upd sc 3 (-1)) n) wO' ∧ ∃ wA', k_isA cI aS (k_psc bx at0 (upd sc 3 (-1)) n) wA' ∧ ∃ wB', k_isB cI aB ((k_bs bx at0 (-1) n).1) ((k_bs bx at0 (-1) n).2) wB' ∧ R0 = [wO', wA', wB']) := by
  have hcI := hI
  refine q_ct (cc := cX4_rest) (maxL := 2) (ret := (some .int)) (own := RX4) (by decide) rfl hZ (Nat.le_of_ble_eq_true rfl) rfl ?_
  intro p9 e9 R s9 m9 args below meth c9 A Q C B
  have hts := C.2.2.2.2.1
  have hinX4 : ∀ w ∈ u_ws RX4 TX4 11, w ∈ wsX4_rest := by decide +kernel
  have f29 := hts (.fieldLink RX4 29 "SortCases$State" "hand" "I") (by decide +kernel)
  refine q_eqL (L' := [(0, .ref h0), (1, .int (nI n))]) rfl ?_
  obtain rfl := hO
  have hOo : k_isO cI h0 aB aL aS sc [(h0, .inr (3, [.ref aB, .ref aL, .ref aS, .int (sc 3), .int (sc 5), .int (sc 6), .int (sc 7), .int (sc 8), .int (sc 9), .int (sc 10), .int (sc 11)]))] := rfl
  refine q_aload_n C dX4_rest_0 1 0 rfl rfl ?_
  refine q_iconst (v := -1) C dX4_rest_1 2 rfl (by decide) ?_
  refine q_put (k := 0) (j := 0) (f := 3) C hinX4 tyX4 tyX4_ok nmX4 f29 (fun _ h => h) (by decide) rfl rfl (tyX4_ok 3 (by decide)) rfl rfl dX4_rest_2 5 rfl rfl rfl (Nat.le_of_ble_eq_true rfl) [[(h0, .inr (3, [.ref aB, .ref aL, .ref aS, .int (-1), .int (sc 5), .int (sc 6), .int (sc 7), .int (sc 8), .int (sc 9), .int (sc 10), .int (sc 11)]))], wA, wB] rfl ?_
  have hOf5 : k_isO cI h0 aB aL aS (upd sc 3 (-1)) [(h0, .inr (3, [.ref aB, .ref aL, .ref aS, .int (-1), .int (sc 5), .int (sc 6), .int (sc 7), .int (sc 8), .int (sc 9), .int (sc 10), .int (sc 11)]))] := rfl
  have hAf5 : k_isA cI aS (upd sc 3 (-1)) wA := k_isA_upd hA (by decide)
  refine q_aload_n C dX4_rest_5 6 0 rfl rfl ?_
  refine q_iload_n C dX4_rest_6 7 1 rfl rfl ?_
  refine q_callV (k := 0) (ci := 3) (n := 1) (rest := []) (Rr := []) C rfl (k_isO_recv hOf5) rfl (c_X4_passBeats l hZ hI h0 aB aL aS (upd sc 3 (-1)) ([(h0, .inr (3, [.ref aB, .ref aL, .ref aS, .int (-1), .int (sc 5), .int (sc 6), .int (sc 7), .int (sc 8), .int (sc 9), .int (sc 10), .int (sc 11)]))]) hOf5 wA hAf5 bx at0 wB hB n (by omega)) gX4_rest_X4_passBeats rfl rfl rfl (by decide +kernel) B.1 ⟨Nat.le_of_ble_eq_true rfl, Nat.le_of_ble_eq_true rfl⟩ rfl rfl (Nat.le_of_ble_eq_true rfl) dX4_rest_7 ⟨Nat.le_of_ble_eq_true rfl, Nat.le_of_ble_eq_true rfl⟩ [0, 1, 2] [] (by decide : ([0, 1, 2] ++ ([] : List Nat)).Perm (List.range 3)) rfl rfl 10 rfl (fun v0 R0 t0 ht0 hp0 => ?_)
  obtain ⟨rfl, wO_7, hwO_7, wA_7, hwA_7, wB_7, hwB_7, rfl⟩ := hp0
  refine q_eqs (st' := [.int (nI (k_cnt (k_bm bx at0 ((upd sc 3 (-1)) 3)) n))]) rfl ?_
  refine q_eqR (Rs' := [wO_7, wA_7, wB_7]) rfl ?_
  exact q_iret C B dX4_rest_10 rfl rfl (fun t0 ht0 => ⟨rfl, _, hwO_7, _, hwA_7, _, hwB_7, rfl⟩)

set_option maxHeartbeats 4000000 in
set_option maxRecDepth 100000 in
theorem c_X4_setLetter (l : Launch) {D : va_G} {tys : List (ClassId × FieldType)} {Z : (Nat → Prop) → State → Heap → Prop} (hZ : q_St Z) {cI : ClassId} (hI : tys[0]? = some (cI, .int)) (h0 : Nat) (aB : Nat) (aL : Nat) (aS : Nat) (sc : Nat → Int32) (wO : va_W) (hO : k_isO cI h0 aB aL aS sc wO) (wA : va_W) (hA : k_isA cI aS sc wA) (bx : k_Bx) (at0 : Nat) (wB : va_W) (hB : k_isB cI aB bx at0 wB) (ln : List (Nat × Nat)) (wL : va_W) (hL : k_isL cI aL ln wL) (c : Nat) (hc : c < 12) (he0 : 0 < (bx c).length) (hl40 : ln.length < 40) (hs1 : sc 1 = nI (k_n1 sc)) (hs9 : k_n1 sc ≤ 9) : q_Ct l D tys Z yX4_setLetter wsX4_setLetter ({ frames := 4, cells := 0, slots := 0, locals := 132 } : Room) 0 0 [.ref h0, .int (nI c)] [wO, wA, wB, wL] (fun v0 R0 _ => v0 = some (.int (nI (k_x bx c))) ∧ ∃ wO', k_isO cI h0 aB aL aS ((k_set (bx, at0, ln, sc) c).2.2.2) wO' ∧ ∃ wA', k_isA cI aS ((k_set (bx, at0, ln, sc) c).2.2.2) wA' ∧ ∃ wB', k_isB cI aB ((k_set (bx, at0, ln, sc) c).1) ((k_set (bx, at0, ln, sc) c).2.1) wB' ∧ ∃ wL', k_isL cI aL (ln ++ [(k_x bx c, c)]) wL' ∧ R0 = [wO', wA', wB', wL']) := by
  have hcI := hI
  refine q_ct (cc := cX4_setLetter) (maxL := 3) (ret := (some .int)) (own := RX4) (by decide) rfl hZ (Nat.le_of_ble_eq_true rfl) rfl ?_
  intro p9 e9 R s9 m9 args below meth c9 A Q C B
  have hts := C.2.2.2.2.1
  have hinX4 : ∀ w ∈ u_ws RX4 TX4 11, w ∈ wsX4_setLetter := by decide +kernel
  have f12 := hts (.fieldLink RX4 12 "SortCases$State" "boxes" "LSortCases$Boxes;") (by decide +kernel)
  have f21 := hts (.fieldLink RX4 21 "SortCases$State" "line" "LSortCases$Line;") (by decide +kernel)
  have f33 := hts (.fieldLink RX4 33 "SortCases$State" "lettersSet" "I") (by decide +kernel)
  have f29 := hts (.fieldLink RX4 29 "SortCases$State" "hand" "I") (by decide +kernel)
  refine q_eqL (L' := [(0, .ref h0), (1, .int (nI c))]) rfl ?_
  obtain rfl := hO
  have hOo : k_isO cI h0 aB aL aS sc [(h0, .inr (3, [.ref aB, .ref aL, .ref aS, .int (sc 3), .int (sc 5), .int (sc 6), .int (sc 7), .int (sc 8), .int (sc 9), .int (sc 10), .int (sc 11)]))] := rfl
  have hok := hB.2.1
  refine q_aload_n C dX4_setLetter_0 1 0 rfl rfl ?_
  refine q_get (k := 0) (j := 0) (f := 0) C hinX4 f12 (fun _ h => h) (by decide) rfl dX4_setLetter_1 4 rfl rfl rfl rfl ?_
  refine q_iload_n C dX4_setLetter_4 5 1 rfl rfl ?_
  refine q_iconst (v := nI 0) C dX4_setLetter_5 6 rfl (by decide) ?_
  refine q_callV (k := 2) (ci := 0) (n := 2) (rest := []) (Rr := [[(h0, .inr (3, [.ref aB, .ref aL, .ref aS, .int (sc 3), .int (sc 5), .int (sc 6), .int (sc 7), .int (sc 8), .int (sc 9), .int (sc 10), .int (sc 11)]))], wA, wL]) C rfl (k_isB_recv hB) rfl (c_X0_typeAt l hZ hI aB bx at0 wB hB c 0 (by omega) (by omega)) gX4_setLetter_X0_typeAt rfl rfl rfl (by decide +kernel) B.1 ⟨Nat.le_of_ble_eq_true rfl, Nat.le_of_ble_eq_true rfl⟩ rfl rfl (Nat.le_of_ble_eq_true rfl) dX4_setLetter_6 ⟨Nat.le_of_ble_eq_true rfl, Nat.le_of_ble_eq_true rfl⟩ [2] [0, 1, 3] (by decide : ([2] ++ ([0, 1, 3] : List Nat)).Perm (List.range 4)) rfl rfl 9 rfl (fun v0 R0 t0 ht0 hp0 => ?_)
  obtain ⟨rfl, rfl⟩ := hp0
  refine q_eqs (st' := [.int (k_top bx c 0)]) rfl ?_
  refine q_reord [1, 2, 0, 3] (by decide : ([1, 2, 0, 3] : List Nat).Perm (List.range 4)) (Rs' := [[(h0, .inr (3, [.ref aB, .ref aL, .ref aS, .int (sc 3), .int (sc 5), .int (sc 6), .int (sc 7), .int (sc 8), .int (sc 9), .int (sc 10), .int (sc 11)]))], wA, wB, wL]) rfl rfl ?_
  refine q_topi (fun r6 hr6 => ?_)
  have he1 : 0 < (bx c).length := he0
  · have hx1 : r6 = nI (k_x bx c) := hr6.trans (k_top_some he1)
    have hxl1 := k_x_lt hok (by omega) he1
    obtain ⟨x, ex1⟩ : ∃ x, x = k_x bx c := ⟨_, rfl⟩
    rw [← ex1] at hx1 hxl1
    subst hx1
    refine q_istore_n C dX4_setLetter_9 10 rfl [(2, .int (nI x)), (0, .ref h0), (1, .int (nI c))] (by decide) rfl ?_
    refine q_aload_n C dX4_setLetter_10 11 1 rfl rfl ?_
    refine q_get (k := 0) (j := 0) (f := 0) C hinX4 f12 (fun _ h => h) (by decide) rfl dX4_setLetter_11 14 rfl rfl rfl rfl ?_
    refine q_iload_n C dX4_setLetter_14 15 2 rfl rfl ?_
    refine q_callV (k := 2) (ci := 0) (n := 1) (rest := []) (Rr := [[(h0, .inr (3, [.ref aB, .ref aL, .ref aS, .int (sc 3), .int (sc 5), .int (sc 6), .int (sc 7), .int (sc 8), .int (sc 9), .int (sc 10), .int (sc 11)]))], wA, wL]) C rfl (k_isB_recv hB) rfl (c_X0_dropUpmost l hZ hI aB bx at0 wB hB c (by omega)) gX4_setLetter_X0_dropUpmost rfl rfl rfl (by decide +kernel) B.1 ⟨Nat.le_of_ble_eq_true rfl, Nat.le_of_ble_eq_true rfl⟩ rfl rfl (Nat.le_of_ble_eq_true rfl) dX4_setLetter_15 ⟨Nat.le_of_ble_eq_true rfl, Nat.le_of_ble_eq_true rfl⟩ [2] [0, 1, 3] (by decide : ([2] ++ ([0, 1, 3] : List Nat)).Perm (List.range 4)) rfl rfl 18 rfl (fun v0 R0 t0 ht0 hp0 => ?_)
    obtain ⟨rfl, w_15, hw_15, rfl⟩ := hp0
    refine q_eqs (st' := []) rfl ?_
    refine q_reord [1, 2, 0, 3] (by decide : ([1, 2, 0, 3] : List Nat).Perm (List.range 4)) (Rs' := [[(h0, .inr (3, [.ref aB, .ref aL, .ref aS, .int (sc 3), .int (sc 5), .int (sc 6), .int (sc 7), .int (sc 8), .int (sc 9), .int (sc 10), .int (sc 11)]))], wA, w_15, wL]) rfl rfl ?_
    refine q_aload_n C dX4_setLetter_18 19 1 rfl rfl ?_
    refine q_get (k := 0) (j := 0) (f := 1) C hinX4 f21 (fun _ h => h) (by decide) rfl dX4_setLetter_19 22 rfl rfl rfl rfl ?_
    refine q_iload_n C dX4_setLetter_22 23 0 rfl rfl ?_
    refine q_iload_n C dX4_setLetter_23 24 2 rfl rfl ?_
    refine q_callV (k := 3) (ci := 2) (n := 2) (rest := []) (Rr := [[(h0, .inr (3, [.ref aB, .ref aL, .ref aS, .int (sc 3), .int (sc 5), .int (sc 6), .int (sc 7), .int (sc 8), .int (sc 9), .int (sc 10), .int (sc 11)]))], wA, w_15]) C rfl (k_isL_recv hL) rfl (c_X2_add l hZ hI aL ln wL hL x c (by omega) (by omega) (by omega)) gX4_setLetter_X2_add rfl rfl rfl (by decide +kernel) B.1 ⟨Nat.le_of_ble_eq_true rfl, Nat.le_of_ble_eq_true rfl⟩ rfl rfl (Nat.le_of_ble_eq_true rfl) dX4_setLetter_24 ⟨Nat.le_of_ble_eq_true rfl, Nat.le_of_ble_eq_true rfl⟩ [3] [0, 1, 2] (by decide : ([3] ++ ([0, 1, 2] : List Nat)).Perm (List.range 4)) rfl rfl 27 rfl (fun v0 R0 t0 ht0 hp0 => ?_)
    obtain ⟨rfl, w_24, hw_24, rfl⟩ := hp0
    refine q_eqs (st' := []) rfl ?_
    refine q_reord [1, 2, 3, 0] (by decide : ([1, 2, 3, 0] : List Nat).Perm (List.range 4)) (Rs' := [[(h0, .inr (3, [.ref aB, .ref aL, .ref aS, .int (sc 3), .int (sc 5), .int (sc 6), .int (sc 7), .int (sc 8), .int (sc 9), .int (sc 10), .int (sc 11)]))], wA, w_15, w_24]) rfl rfl ?_
    refine q_aload_n C dX4_setLetter_27 28 1 rfl rfl ?_
    refine q_dup C dX4_setLetter_28 29 rfl rfl ?_
    refine q_get (k := 0) (j := 0) (f := 4) C hinX4 f33 (fun _ h => h) (by decide) rfl dX4_setLetter_29 32 rfl rfl rfl rfl ?_
    refine q_iconst (v := nI 1) C dX4_setLetter_32 33 rfl (by decide) ?_
    refine q_iadd (v := (sc 5) + (nI 1)) C dX4_setLetter_33 34 rfl rfl ?_
    refine q_put (k := 0) (j := 0) (f := 4) C hinX4 tyX4 tyX4_ok nmX4 f33 (fun _ h => h) (by decide) rfl rfl (tyX4_ok 4 (by decide)) rfl rfl dX4_setLetter_34 37 rfl rfl rfl (Nat.le_of_ble_eq_true rfl) [[(h0, .inr (3, [.ref aB, .ref aL, .ref aS, .int (sc 3), .int ((sc 5) + (nI 1)), .int (sc 6), .int (sc 7), .int (sc 8), .int (sc 9), .int (sc 10), .int (sc 11)]))], wA, w_15, w_24] rfl ?_
    refine q_aload_n C dX4_setLetter_37 38 1 rfl rfl ?_
    refine q_iload_n C dX4_setLetter_38 39 2 rfl rfl ?_
    refine q_put (k := 0) (j := 0) (f := 3) C hinX4 tyX4 tyX4_ok nmX4 f29 (fun _ h => h) (by decide) rfl rfl (tyX4_ok 3 (by decide)) rfl rfl dX4_setLetter_39 42 rfl rfl rfl (Nat.le_of_ble_eq_true rfl) [[(h0, .inr (3, [.ref aB, .ref aL, .ref aS, .int (nI c), .int ((sc 5) + (nI 1)), .int (sc 6), .int (sc 7), .int (sc 8), .int (sc 9), .int (sc 10), .int (sc 11)]))], wA, w_15, w_24] rfl ?_
    have hOf42 : k_isO cI h0 aB aL aS (upd (upd sc 5 (sc 5 + nI 1)) 3 (nI c)) [(h0, .inr (3, [.ref aB, .ref aL, .ref aS, .int (nI c), .int ((sc 5) + (nI 1)), .int (sc 6), .int (sc 7), .int (sc 8), .int (sc 9), .int (sc 10), .int (sc 11)]))] := rfl
    have hAf42 : k_isA cI aS (upd (upd sc 5 (sc 5 + nI 1)) 3 (nI c)) wA := k_isA_upd (k_isA_upd hA (by decide)) (by decide)
    refine q_aload_n C dX4_setLetter_42 43 1 rfl rfl ?_
    refine q_aload_n C dX4_setLetter_43 44 1 rfl rfl ?_
    refine q_iconst (v := nI 1) C dX4_setLetter_44 45 rfl (by decide) ?_
    refine q_callV (k := 0) (ci := 3) (n := 1) (rest := [.ref h0]) (Rr := [w_15, w_24]) C rfl (k_isO_recv hOf42) rfl (c_X4_settingAt l hZ hI h0 aB aL aS (upd (upd sc 5 (sc 5 + nI 1)) 3 (nI c)) ([(h0, .inr (3, [.ref aB, .ref aL, .ref aS, .int (nI c), .int ((sc 5) + (nI 1)), .int (sc 6), .int (sc 7), .int (sc 8), .int (sc 9), .int (sc 10), .int (sc 11)]))]) hOf42 wA hAf42 1 (by omega)) gX4_setLetter_X4_settingAt rfl rfl rfl (by decide +kernel) B.1 ⟨Nat.le_of_ble_eq_true rfl, Nat.le_of_ble_eq_true rfl⟩ rfl rfl (Nat.le_of_ble_eq_true rfl) dX4_setLetter_45 ⟨Nat.le_of_ble_eq_true rfl, Nat.le_of_ble_eq_true rfl⟩ [0, 1] [2, 3] (by decide : ([0, 1] ++ ([2, 3] : List Nat)).Perm (List.range 4)) rfl rfl 48 rfl (fun v0 R0 t0 ht0 hp0 => ?_)
    obtain ⟨rfl, rfl⟩ := hp0
    refine q_eqs (st' := [.int ((upd (upd sc 5 (sc 5 + nI 1)) 3 (nI c)) 1), .ref h0]) rfl ?_
    refine q_eqR (Rs' := [[(h0, .inr (3, [.ref aB, .ref aL, .ref aS, .int (nI c), .int ((sc 5) + (nI 1)), .int (sc 6), .int (sc 7), .int (sc 8), .int (sc 9), .int (sc 10), .int (sc 11)]))], wA, w_15, w_24]) rfl ?_
    refine q_topi (fun r45 hr45 => ?_)
    have hr45b : r45 = nI (k_n1 sc) := hr45.trans ((pk_un (by decide)).trans ((pk_un (by decide)).trans hs1))
    subst hr45b
    refine q_callV (k := 0) (ci := 3) (n := 1) (rest := []) (Rr := [w_24]) C rfl (k_isO_recv hOf42) rfl (c_X4_passBeats l hZ hI h0 aB aL aS (upd (upd sc 5 (sc 5 + nI 1)) 3 (nI c)) ([(h0, .inr (3, [.ref aB, .ref aL, .ref aS, .int (nI c), .int ((sc 5) + (nI 1)), .int (sc 6), .int (sc 7), .int (sc 8), .int (sc 9), .int (sc 10), .int (sc 11)]))]) hOf42 wA hAf42 (k_drop bx c) at0 w_15 hw_15 ((k_n1 sc)) (by omega)) gX4_setLetter_X4_passBeats rfl rfl rfl (by decide +kernel) B.1 ⟨Nat.le_of_ble_eq_true rfl, Nat.le_of_ble_eq_true rfl⟩ rfl rfl (Nat.le_of_ble_eq_true rfl) dX4_setLetter_48 ⟨Nat.le_of_ble_eq_true rfl, Nat.le_of_ble_eq_true rfl⟩ [0, 1, 2] [3] (by decide : ([0, 1, 2] ++ ([3] : List Nat)).Perm (List.range 4)) rfl rfl 51 rfl (fun v0 R0 t0 ht0 hp0 => ?_)
    obtain ⟨rfl, wO_48, hwO_48, wA_48, hwA_48, wB_48, hwB_48, rfl⟩ := hp0
    refine q_eqs (st' := [.int (nI (k_cnt (k_bm (k_drop bx c) at0 ((upd (upd sc 5 (sc 5 + nI 1)) 3 (nI c)) 3)) ((k_n1 sc))))]) rfl ?_
    refine q_eqR (Rs' := [wO_48, wA_48, wB_48, w_24]) rfl ?_
    refine q_pop C dX4_setLetter_51 52 rfl rfl ?_
    refine q_iload_n C dX4_setLetter_52 53 0 rfl rfl ?_
    subst ex1
    exact q_iret C B dX4_setLetter_53 rfl rfl (fun t0 ht0 => ⟨rfl, _, hwO_48, _, hwA_48, _, hwB_48, _, hw_24, rfl⟩)

set_option maxHeartbeats 4000000 in
set_option maxRecDepth 100000 in
theorem c_X4_boxBehind (l : Launch) {D : va_G} {tys : List (ClassId × FieldType)} {Z : (Nat → Prop) → State → Heap → Prop} (hZ : q_St Z) {cI : ClassId} (hI : tys[0]? = some (cI, .int)) (h0 : Nat) (aB : Nat) (aL : Nat) (aS : Nat) (sc : Nat → Int32) (wO : va_W) (hO : k_isO cI h0 aB aL aS sc wO) (wA : va_W) (hA : k_isA cI aS sc wA) (ln : List (Nat × Nat)) (wL : va_W) (hL : k_isL cI aL ln wL) (q : Nat) (hq : q < ln.length) : q_Ct l D tys Z yX4_boxBehind wsX4_boxBehind ({ frames := 2, cells := 0, slots := 0, locals := 72 } : Room) 0 0 [.ref h0, .int (nI q)] [wO, wA, wL] (fun v0 R0 _ => v0 = some (.int (nI (k_bb ln sc q))) ∧ R0 = [wO, wA, wL]) := by
  have hcI := hI
  refine q_ct (cc := cX4_boxBehind) (maxL := 2) (ret := (some .int)) (own := RX4) (by decide) rfl hZ (Nat.le_of_ble_eq_true rfl) rfl ?_
  intro p9 e9 R s9 m9 args below meth c9 A Q C B
  have hts := C.2.2.2.2.1
  have hinX4 : ∀ w ∈ u_ws RX4 TX4 11, w ∈ wsX4_boxBehind := by decide +kernel
  have f21 := hts (.fieldLink RX4 21 "SortCases$State" "line" "LSortCases$Line;") (by decide +kernel)
  refine q_eqL (L' := [(0, .ref h0), (1, .int (nI q))]) rfl ?_
  obtain rfl := hO
  have hOo : k_isO cI h0 aB aL aS sc [(h0, .inr (3, [.ref aB, .ref aL, .ref aS, .int (sc 3), .int (sc 5), .int (sc 6), .int (sc 7), .int (sc 8), .int (sc 9), .int (sc 10), .int (sc 11)]))] := rfl
  refine q_aload_n C dX4_boxBehind_0 1 0 rfl rfl ?_
  refine q_iconst (v := nI 2) C dX4_boxBehind_1 2 rfl (by decide) ?_
  refine q_callV (k := 0) (ci := 3) (n := 1) (rest := []) (Rr := [wL]) C rfl (k_isO_recv hOo) rfl (c_X4_settingAt l hZ hI h0 aB aL aS sc ([(h0, .inr (3, [.ref aB, .ref aL, .ref aS, .int (sc 3), .int (sc 5), .int (sc 6), .int (sc 7), .int (sc 8), .int (sc 9), .int (sc 10), .int (sc 11)]))]) hOo wA hA 2 (by omega)) gX4_boxBehind_X4_settingAt rfl rfl rfl (by decide +kernel) B.1 ⟨Nat.le_of_ble_eq_true rfl, Nat.le_of_ble_eq_true rfl⟩ rfl rfl (Nat.le_of_ble_eq_true rfl) dX4_boxBehind_2 ⟨Nat.le_of_ble_eq_true rfl, Nat.le_of_ble_eq_true rfl⟩ [0, 1] [2] (by decide : ([0, 1] ++ ([2] : List Nat)).Perm (List.range 3)) rfl rfl 5 rfl (fun v0 R0 t0 ht0 hp0 => ?_)
  obtain ⟨rfl, rfl⟩ := hp0
  refine q_eqs (st' := [.int (sc 2)]) rfl ?_
  refine q_eqR (Rs' := [[(h0, .inr (3, [.ref aB, .ref aL, .ref aS, .int (sc 3), .int (sc 5), .int (sc 6), .int (sc 7), .int (sc 8), .int (sc 9), .int (sc 10), .int (sc 11)]))], wA, wL]) rfl ?_
  refine q_topi (fun r2 hr2 => ?_)
  refine q_iconst (v := nI 1) C dX4_boxBehind_5 6 rfl (by decide) ?_
  refine q_icmp_ne C dX4_boxBehind_6 9 20 rfl (by decide) Iff.rfl (fun h6 => ?_) (fun h6 => ?_)
  · refine q_aload_n C dX4_boxBehind_20 21 0 rfl rfl ?_
    refine q_get (k := 0) (j := 0) (f := 1) C hinX4 f21 (fun _ h => h) (by decide) rfl dX4_boxBehind_21 24 rfl rfl rfl rfl ?_
    refine q_iload_n C dX4_boxBehind_24 25 1 rfl rfl ?_
    refine q_callV (k := 2) (ci := 2) (n := 1) (rest := []) (Rr := [[(h0, .inr (3, [.ref aB, .ref aL, .ref aS, .int (sc 3), .int (sc 5), .int (sc 6), .int (sc 7), .int (sc 8), .int (sc 9), .int (sc 10), .int (sc 11)]))], wA]) C rfl (k_isL_recv hL) rfl (c_X2_sortAt l hZ hI aL ln wL hL q (by omega)) gX4_boxBehind_X2_sortAt rfl rfl rfl (by decide +kernel) B.1 ⟨Nat.le_of_ble_eq_true rfl, Nat.le_of_ble_eq_true rfl⟩ rfl rfl (Nat.le_of_ble_eq_true rfl) dX4_boxBehind_25 ⟨Nat.le_of_ble_eq_true rfl, Nat.le_of_ble_eq_true rfl⟩ [2] [0, 1] (by decide : ([2] ++ ([0, 1] : List Nat)).Perm (List.range 3)) rfl rfl 28 rfl (fun v0 R0 t0 ht0 hp0 => ?_)
    obtain ⟨rfl, rfl⟩ := hp0
    refine q_eqs (st' := [.int (nI ((k_la ln q).1))]) rfl ?_
    refine q_reord [1, 2, 0] (by decide : ([1, 2, 0] : List Nat).Perm (List.range 3)) (Rs' := [[(h0, .inr (3, [.ref aB, .ref aL, .ref aS, .int (sc 3), .int (sc 5), .int (sc 6), .int (sc 7), .int (sc 8), .int (sc 9), .int (sc 10), .int (sc 11)]))], wA, wL]) rfl rfl ?_
    have ht25 : (k_la ln q).1 < 12 := (k_la_lt hL.1 (by omega)).1
    exact q_iret C B dX4_boxBehind_28 rfl rfl (fun t0 ht0 => ⟨by rw [k_bb_0 (by rw [← hr2]; exact h6)], rfl⟩)
  · refine q_aload_n C dX4_boxBehind_9 10 0 rfl rfl ?_
    refine q_get (k := 0) (j := 0) (f := 1) C hinX4 f21 (fun _ h => h) (by decide) rfl dX4_boxBehind_10 13 rfl rfl rfl rfl ?_
    refine q_iload_n C dX4_boxBehind_13 14 1 rfl rfl ?_
    refine q_callV (k := 2) (ci := 2) (n := 1) (rest := []) (Rr := [[(h0, .inr (3, [.ref aB, .ref aL, .ref aS, .int (sc 3), .int (sc 5), .int (sc 6), .int (sc 7), .int (sc 8), .int (sc 9), .int (sc 10), .int (sc 11)]))], wA]) C rfl (k_isL_recv hL) rfl (c_X2_letterAt l hZ hI aL ln wL hL q (by omega)) gX4_boxBehind_X2_letterAt rfl rfl rfl (by decide +kernel) B.1 ⟨Nat.le_of_ble_eq_true rfl, Nat.le_of_ble_eq_true rfl⟩ rfl rfl (Nat.le_of_ble_eq_true rfl) dX4_boxBehind_14 ⟨Nat.le_of_ble_eq_true rfl, Nat.le_of_ble_eq_true rfl⟩ [2] [0, 1] (by decide : ([2] ++ ([0, 1] : List Nat)).Perm (List.range 3)) rfl rfl 17 rfl (fun v0 R0 t0 ht0 hp0 => ?_)
    obtain ⟨rfl, rfl⟩ := hp0
    refine q_eqs (st' := [.int (nI ((k_la ln q).2))]) rfl ?_
    refine q_reord [1, 2, 0] (by decide : ([1, 2, 0] : List Nat).Perm (List.range 3)) (Rs' := [[(h0, .inr (3, [.ref aB, .ref aL, .ref aS, .int (sc 3), .int (sc 5), .int (sc 6), .int (sc 7), .int (sc 8), .int (sc 9), .int (sc 10), .int (sc 11)]))], wA, wL]) rfl rfl ?_
    have ht14 : (k_la ln q).2 < 12 := (k_la_lt hL.1 (by omega)).2
    refine q_goto C dX4_boxBehind_17 28 (by decide) ?_
    exact q_iret C B dX4_boxBehind_28 rfl rfl (fun t0 ht0 => ⟨by rw [k_bb_1 (by rw [← hr2]; exact h6)], rfl⟩)

set_option maxHeartbeats 4000000 in
set_option maxRecDepth 100000 in
theorem c_X4_whyNotCorrect (l : Launch) {D : va_G} {tys : List (ClassId × FieldType)} {Z : (Nat → Prop) → State → Heap → Prop} (hZ : q_St Z) {cI : ClassId} (hI : tys[0]? = some (cI, .int)) (h0 : Nat) (aB : Nat) (aL : Nat) (aS : Nat) (sc : Nat → Int32) (wO : va_W) (hO : k_isO cI h0 aB aL aS sc wO) (wA : va_W) (hA : k_isA cI aS sc wA) (bx : k_Bx) (at0 : Nat) (wB : va_W) (hB : k_isB cI aB bx at0 wB) (ln : List (Nat × Nat)) (wL : va_W) (hL : k_isL cI aL ln wL) (q : Nat) (hq : q < ln.length) : q_Ct l D tys Z yX4_whyNotCorrect wsX4_whyNotCorrect ({ frames := 3, cells := 0, slots := 0, locals := 102 } : Room) 0 0 [.ref h0, .int (nI q)] [wO, wA, wB, wL] (fun v0 R0 _ => v0 = some (.int (nI (k_wc bx ln sc q))) ∧ R0 = [wO, wA, wB, wL]) := by
  have hcI := hI
  refine q_ct (cc := cX4_whyNotCorrect) (maxL := 2) (ret := (some .int)) (own := RX4) (by decide) rfl hZ (Nat.le_of_ble_eq_true rfl) rfl ?_
  intro p9 e9 R s9 m9 args below meth c9 A Q C B
  have hts := C.2.2.2.2.1
  have hinX4 : ∀ w ∈ u_ws RX4 TX4 11, w ∈ wsX4_whyNotCorrect := by decide +kernel
  have f21 := hts (.fieldLink RX4 21 "SortCases$State" "line" "LSortCases$Line;") (by decide +kernel)
  have f12 := hts (.fieldLink RX4 12 "SortCases$State" "boxes" "LSortCases$Boxes;") (by decide +kernel)
  refine q_eqL (L' := [(0, .ref h0), (1, .int (nI q))]) rfl ?_
  obtain rfl := hO
  have hOo : k_isO cI h0 aB aL aS sc [(h0, .inr (3, [.ref aB, .ref aL, .ref aS, .int (sc 3), .int (sc 5), .int (sc 6), .int (sc 7), .int (sc 8), .int (sc 9), .int (sc 10), .int (sc 11)]))] := rfl
  have hok := hB.2.1
  have hlok := hL.1
  refine q_aload_n C dX4_whyNotCorrect_0 1 0 rfl rfl ?_
  refine q_get (k := 0) (j := 0) (f := 1) C hinX4 f21 (fun _ h => h) (by decide) rfl dX4_whyNotCorrect_1 4 rfl rfl rfl rfl ?_
  refine q_iload_n C dX4_whyNotCorrect_4 5 1 rfl rfl ?_
  refine q_callV (k := 3) (ci := 2) (n := 1) (rest := []) (Rr := [[(h0, .inr (3, [.ref aB, .ref aL, .ref aS, .int (sc 3), .int (sc 5), .int (sc 6), .int (sc 7), .int (sc 8), .int (sc 9), .int (sc 10), .int (sc 11)]))], wA, wB]) C rfl (k_isL_recv hL) rfl (c_X2_isWrongAt l hZ hI aL ln wL hL q (by omega)) gX4_whyNotCorrect_X2_isWrongAt rfl rfl rfl (by decide +kernel) B.1 ⟨Nat.le_of_ble_eq_true rfl, Nat.le_of_ble_eq_true rfl⟩ rfl rfl (Nat.le_of_ble_eq_true rfl) dX4_whyNotCorrect_5 ⟨Nat.le_of_ble_eq_true rfl, Nat.le_of_ble_eq_true rfl⟩ [3] [0, 1, 2] (by decide : ([3] ++ ([0, 1, 2] : List Nat)).Perm (List.range 4)) rfl rfl 8 rfl (fun v0 R0 t0 ht0 hp0 => ?_)
  obtain ⟨rfl, rfl⟩ := hp0
  refine q_eqs (st' := [.int (q_b (decide (¬ (k_la ln q).1 = (k_la ln q).2)))]) rfl ?_
  refine q_reord [1, 2, 3, 0] (by decide : ([1, 2, 3, 0] : List Nat).Perm (List.range 4)) (Rs' := [[(h0, .inr (3, [.ref aB, .ref aL, .ref aS, .int (sc 3), .int (sc 5), .int (sc 6), .int (sc 7), .int (sc 8), .int (sc 9), .int (sc 10), .int (sc 11)]))], wA, wB, wL]) rfl rfl ?_
  refine q_if_ne (P := ¬ (¬ (k_la ln q).1 = (k_la ln q).2)) C dX4_whyNotCorrect_8 11 13 rfl (by decide) q_bd0 (fun h8 => ?_) (fun h8 => ?_)
  · refine q_aload_n C dX4_whyNotCorrect_13 14 0 rfl rfl ?_
    refine q_get (k := 0) (j := 0) (f := 0) C hinX4 f12 (fun _ h => h) (by decide) rfl dX4_whyNotCorrect_14 17 rfl rfl rfl rfl ?_
    refine q_aload_n C dX4_whyNotCorrect_17 18 0 rfl rfl ?_
    refine q_get (k := 0) (j := 0) (f := 1) C hinX4 f21 (fun _ h => h) (by decide) rfl dX4_whyNotCorrect_18 21 rfl rfl rfl rfl ?_
    refine q_iload_n C dX4_whyNotCorrect_21 22 1 rfl rfl ?_
    refine q_callV (k := 3) (ci := 2) (n := 1) (rest := [.ref aB]) (Rr := [[(h0, .inr (3, [.ref aB, .ref aL, .ref aS, .int (sc 3), .int (sc 5), .int (sc 6), .int (sc 7), .int (sc 8), .int (sc 9), .int (sc 10), .int (sc 11)]))], wA, wB]) C rfl (k_isL_recv hL) rfl (c_X2_letterAt l hZ hI aL ln wL hL q (by omega)) gX4_whyNotCorrect_X2_letterAt rfl rfl rfl (by decide +kernel) B.1 ⟨Nat.le_of_ble_eq_true rfl, Nat.le_of_ble_eq_true rfl⟩ rfl rfl (Nat.le_of_ble_eq_true rfl) dX4_whyNotCorrect_22 ⟨Nat.le_of_ble_eq_true rfl, Nat.le_of_ble_eq_true rfl⟩ [3] [0, 1, 2] (by decide : ([3] ++ ([0, 1, 2] : List Nat)).Perm (List.range 4)) rfl rfl 25 rfl (fun v0 R0 t0 ht0 hp0 => ?_)
    obtain ⟨rfl, rfl⟩ := hp0
    refine q_eqs (st' := [.int (nI ((k_la ln q).2)), .ref aB]) rfl ?_
    refine q_reord [1, 2, 3, 0] (by decide : ([1, 2, 3, 0] : List Nat).Perm (List.range 4)) (Rs' := [[(h0, .inr (3, [.ref aB, .ref aL, .ref aS, .int (sc 3), .int (sc 5), .int (sc 6), .int (sc 7), .int (sc 8), .int (sc 9), .int (sc 10), .int (sc 11)]))], wA, wB, wL]) rfl rfl ?_
    have ht22 : (k_la ln q).2 < 12 := (k_la_lt hL.1 (by omega)).2
    refine q_callV (k := 2) (ci := 0) (n := 1) (rest := []) (Rr := [[(h0, .inr (3, [.ref aB, .ref aL, .ref aS, .int (sc 3), .int (sc 5), .int (sc 6), .int (sc 7), .int (sc 8), .int (sc 9), .int (sc 10), .int (sc 11)]))], wA, wL]) C rfl (k_isB_recv hB) rfl (c_X0_depthOfRight l hZ hI aB bx at0 wB hB ((k_la ln q).2) (by omega)) gX4_whyNotCorrect_X0_depthOfRight rfl rfl rfl (by decide +kernel) B.1 ⟨Nat.le_of_ble_eq_true rfl, Nat.le_of_ble_eq_true rfl⟩ rfl rfl (Nat.le_of_ble_eq_true rfl) dX4_whyNotCorrect_25 ⟨Nat.le_of_ble_eq_true rfl, Nat.le_of_ble_eq_true rfl⟩ [2] [0, 1, 3] (by decide : ([2] ++ ([0, 1, 3] : List Nat)).Perm (List.range 4)) rfl rfl 28 rfl (fun v0 R0 t0 ht0 hp0 => ?_)
    obtain ⟨rfl, rfl⟩ := hp0
    refine q_eqs (st' := [.int (k_dp bx ((k_la ln q).2))]) rfl ?_
    refine q_reord [1, 2, 0, 3] (by decide : ([1, 2, 0, 3] : List Nat).Perm (List.range 4)) (Rs' := [[(h0, .inr (3, [.ref aB, .ref aL, .ref aS, .int (sc 3), .int (sc 5), .int (sc 6), .int (sc 7), .int (sc 8), .int (sc 9), .int (sc 10), .int (sc 11)]))], wA, wB, wL]) rfl rfl ?_
    refine q_topi (fun r25 hr25 => ?_)
    refine q_iconst (v := -1) C dX4_whyNotCorrect_28 29 rfl (by decide) ?_
    refine q_icmp_ne C dX4_whyNotCorrect_29 32 34 rfl (by decide) Iff.rfl (fun h29 => ?_) (fun h29 => ?_)
    · refine q_aload_n C dX4_whyNotCorrect_34 35 0 rfl rfl ?_
      refine q_get (k := 0) (j := 0) (f := 0) C hinX4 f12 (fun _ h => h) (by decide) rfl dX4_whyNotCorrect_35 38 rfl rfl rfl rfl ?_
      refine q_aload_n C dX4_whyNotCorrect_38 39 0 rfl rfl ?_
      refine q_iload_n C dX4_whyNotCorrect_39 40 1 rfl rfl ?_
      refine q_callV (k := 0) (ci := 3) (n := 1) (rest := [.ref aB]) (Rr := [wB]) C rfl (k_isO_recv hOo) rfl (c_X4_boxBehind l hZ hI h0 aB aL aS sc ([(h0, .inr (3, [.ref aB, .ref aL, .ref aS, .int (sc 3), .int (sc 5), .int (sc 6), .int (sc 7), .int (sc 8), .int (sc 9), .int (sc 10), .int (sc 11)]))]) hOo wA hA ln wL hL q (by omega)) gX4_whyNotCorrect_X4_boxBehind rfl rfl rfl (by decide +kernel) B.1 ⟨Nat.le_of_ble_eq_true rfl, Nat.le_of_ble_eq_true rfl⟩ rfl rfl (Nat.le_of_ble_eq_true rfl) dX4_whyNotCorrect_40 ⟨Nat.le_of_ble_eq_true rfl, Nat.le_of_ble_eq_true rfl⟩ [0, 1, 3] [2] (by decide : ([0, 1, 3] ++ ([2] : List Nat)).Perm (List.range 4)) rfl rfl 43 rfl (fun v0 R0 t0 ht0 hp0 => ?_)
      obtain ⟨rfl, rfl⟩ := hp0
      refine q_eqs (st' := [.int (nI (k_bb ln sc q)), .ref aB]) rfl ?_
      refine q_reord [0, 1, 3, 2] (by decide : ([0, 1, 3, 2] : List Nat).Perm (List.range 4)) (Rs' := [[(h0, .inr (3, [.ref aB, .ref aL, .ref aS, .int (sc 3), .int (sc 5), .int (sc 6), .int (sc 7), .int (sc 8), .int (sc 9), .int (sc 10), .int (sc 11)]))], wA, wB, wL]) rfl rfl ?_
      have ht40 : k_bb ln sc q < 12 := k_bb_lt hL.1 (by omega)
      refine q_callV (k := 2) (ci := 0) (n := 1) (rest := []) (Rr := [[(h0, .inr (3, [.ref aB, .ref aL, .ref aS, .int (sc 3), .int (sc 5), .int (sc 6), .int (sc 7), .int (sc 8), .int (sc 9), .int (sc 10), .int (sc 11)]))], wA, wL]) C rfl (k_isB_recv hB) rfl (c_X0_hasRoom l hZ hI aB bx at0 wB hB (k_bb ln sc q) (by omega)) gX4_whyNotCorrect_X0_hasRoom rfl rfl rfl (by decide +kernel) B.1 ⟨Nat.le_of_ble_eq_true rfl, Nat.le_of_ble_eq_true rfl⟩ rfl rfl (Nat.le_of_ble_eq_true rfl) dX4_whyNotCorrect_43 ⟨Nat.le_of_ble_eq_true rfl, Nat.le_of_ble_eq_true rfl⟩ [2] [0, 1, 3] (by decide : ([2] ++ ([0, 1, 3] : List Nat)).Perm (List.range 4)) rfl rfl 46 rfl (fun v0 R0 t0 ht0 hp0 => ?_)
      obtain ⟨rfl, rfl⟩ := hp0
      refine q_eqs (st' := [.int (q_b (decide ((bx (k_bb ln sc q)).length < 20)))]) rfl ?_
      refine q_reord [1, 2, 0, 3] (by decide : ([1, 2, 0, 3] : List Nat).Perm (List.range 4)) (Rs' := [[(h0, .inr (3, [.ref aB, .ref aL, .ref aS, .int (sc 3), .int (sc 5), .int (sc 6), .int (sc 7), .int (sc 8), .int (sc 9), .int (sc 10), .int (sc 11)]))], wA, wB, wL]) rfl rfl ?_
      refine q_if_eq (P := ¬ ((bx (k_bb ln sc q)).length < 20)) C dX4_whyNotCorrect_46 49 53 rfl (by decide) q_bd0 (fun h46 => ?_) (fun h46 => ?_)
      · refine q_iconst (v := nI 5) C dX4_whyNotCorrect_53 54 rfl (by decide) ?_
        exact q_iret C B dX4_whyNotCorrect_54 rfl rfl (fun t0 ht0 => ⟨by rw [k_wc_5 (by omega) (fun z => h29 (hr25.trans ((k_dp_m1 (hok _ (by omega)).1).mpr z))) (by omega)], rfl⟩)
      · refine q_iconst (v := nI 0) C dX4_whyNotCorrect_49 50 rfl (by decide) ?_
        refine q_goto C dX4_whyNotCorrect_50 54 (by decide) ?_
        exact q_iret C B dX4_whyNotCorrect_54 rfl rfl (fun t0 ht0 => ⟨by rw [k_wc_0 (by omega) (fun z => h29 (hr25.trans ((k_dp_m1 (hok _ (by omega)).1).mpr z))) (by omega)], rfl⟩)
    · refine q_iconst (v := nI 4) C dX4_whyNotCorrect_32 33 rfl (by decide) ?_
      exact q_iret C B dX4_whyNotCorrect_33 rfl rfl (fun t0 ht0 => ⟨by rw [k_wc_4 (by omega) ((k_dp_m1 (hok _ (by omega)).1).mp (hr25.symm.trans h29))], rfl⟩)
  · refine q_iconst (v := nI 3) C dX4_whyNotCorrect_11 12 rfl (by decide) ?_
    exact q_iret C B dX4_whyNotCorrect_12 rfl rfl (fun t0 ht0 => ⟨by rw [k_wc_3 (by first | omega | exact Decidable.not_not.mp h8)], rfl⟩)

set_option maxHeartbeats 4000000 in
set_option maxRecDepth 100000 in
theorem c_X4_correct (l : Launch) {D : va_G} {tys : List (ClassId × FieldType)} {Z : (Nat → Prop) → State → Heap → Prop} (hZ : q_St Z) {cI : ClassId} (hI : tys[0]? = some (cI, .int)) (h0 : Nat) (aB : Nat) (aL : Nat) (aS : Nat) (sc : Nat → Int32) (wO : va_W) (hO : k_isO cI h0 aB aL aS sc wO) (wA : va_W) (hA : k_isA cI aS sc wA) (bx : k_Bx) (at0 : Nat) (wB : va_W) (hB : k_isB cI aB bx at0 wB) (ln : List (Nat × Nat)) (wL : va_W) (hL : k_isL cI aL ln wL) (q : Nat) (hq : q < ln.length) (hw0 : k_wc bx ln sc q = 0) : q_Ct l D tys Z yX4_correct wsX4_correct ({ frames := 3, cells := 0, slots := 0, locals := 102 } : Room) 0 0 [.ref h0, .int (nI q)] [wO, wA, wB, wL] (fun v0 R0 _ => v0 = none ∧ ∃ wO', k_isO cI h0 aB aL aS (upd (upd sc 8 (sc 8 + nI 1)) 3 (-1)) wO' ∧ ∃ wA', k_isA cI aS (upd (upd sc 8 (sc 8 + nI 1)) 3 (-1)) wA' ∧ ∃ wB', k_isB cI aB ((k_cor (bx, at0, ln, sc) q).1) at0 wB' ∧ ∃ wL', k_isL cI aL (k_rep ln q (k_la ln q).2) wL' ∧ R0 = [wO', wA', wB', wL']) := by
  have hcI := hI
  refine q_ct (cc := cX4_correct) (maxL := 3) (ret := none) (own := RX4) (by decide) rfl hZ (Nat.le_of_ble_eq_true rfl) rfl ?_
  intro p9 e9 R s9 m9 args below meth c9 A Q C B
  have hts := C.2.2.2.2.1
  have hinX4 : ∀ w ∈ u_ws RX4 TX4 11, w ∈ wsX4_correct := by decide +kernel
  have f21 := hts (.fieldLink RX4 21 "SortCases$State" "line" "LSortCases$Line;") (by decide +kernel)
  have f12 := hts (.fieldLink RX4 12 "SortCases$State" "boxes" "LSortCases$Boxes;") (by decide +kernel)
  have f42 := hts (.fieldLink RX4 42 "SortCases$State" "corrections" "I") (by decide +kernel)
  have f29 := hts (.fieldLink RX4 29 "SortCases$State" "hand" "I") (by decide +kernel)
  refine q_eqL (L' := [(0, .ref h0), (1, .int (nI q))]) rfl ?_
  obtain rfl := hO
  have hOo : k_isO cI h0 aB aL aS sc [(h0, .inr (3, [.ref aB, .ref aL, .ref aS, .int (sc 3), .int (sc 5), .int (sc 6), .int (sc 7), .int (sc 8), .int (sc 9), .int (sc 10), .int (sc 11)]))] := rfl
  obtain ⟨hw1, ⟨k0, hk0⟩, hw3⟩ := k_wc_inv hw0
  obtain ⟨k1, hk1⟩ := k_rt_put (b := k_bb ln sc q) (x := (k_la ln q).1) hk0
  have hk2 := k_rt_lt hk1
  have hlok := hL.1
  refine q_aload_n C dX4_correct_0 1 0 rfl rfl ?_
  refine q_get (k := 0) (j := 0) (f := 1) C hinX4 f21 (fun _ h => h) (by decide) rfl dX4_correct_1 4 rfl rfl rfl rfl ?_
  refine q_iload_n C dX4_correct_4 5 1 rfl rfl ?_
  refine q_callV (k := 3) (ci := 2) (n := 1) (rest := []) (Rr := [[(h0, .inr (3, [.ref aB, .ref aL, .ref aS, .int (sc 3), .int (sc 5), .int (sc 6), .int (sc 7), .int (sc 8), .int (sc 9), .int (sc 10), .int (sc 11)]))], wA, wB]) C rfl (k_isL_recv hL) rfl (c_X2_letterAt l hZ hI aL ln wL hL q (by omega)) gX4_correct_X2_letterAt rfl rfl rfl (by decide +kernel) B.1 ⟨Nat.le_of_ble_eq_true rfl, Nat.le_of_ble_eq_true rfl⟩ rfl rfl (Nat.le_of_ble_eq_true rfl) dX4_correct_5 ⟨Nat.le_of_ble_eq_true rfl, Nat.le_of_ble_eq_true rfl⟩ [3] [0, 1, 2] (by decide : ([3] ++ ([0, 1, 2] : List Nat)).Perm (List.range 4)) rfl rfl 8 rfl (fun v0 R0 t0 ht0 hp0 => ?_)
  obtain ⟨rfl, rfl⟩ := hp0
  refine q_eqs (st' := [.int (nI ((k_la ln q).2))]) rfl ?_
  refine q_reord [1, 2, 3, 0] (by decide : ([1, 2, 3, 0] : List Nat).Perm (List.range 4)) (Rs' := [[(h0, .inr (3, [.ref aB, .ref aL, .ref aS, .int (sc 3), .int (sc 5), .int (sc 6), .int (sc 7), .int (sc 8), .int (sc 9), .int (sc 10), .int (sc 11)]))], wA, wB, wL]) rfl rfl ?_
  have ht5 : (k_la ln q).2 < 12 := (k_la_lt hL.1 (by omega)).2
  refine q_istore_n C dX4_correct_8 9 rfl [(2, .int (nI ((k_la ln q).2))), (0, .ref h0), (1, .int (nI q))] (by decide) rfl ?_
  refine q_aload_n C dX4_correct_9 10 1 rfl rfl ?_
  refine q_get (k := 0) (j := 0) (f := 0) C hinX4 f12 (fun _ h => h) (by decide) rfl dX4_correct_10 13 rfl rfl rfl rfl ?_
  refine q_aload_n C dX4_correct_13 14 1 rfl rfl ?_
  refine q_iload_n C dX4_correct_14 15 2 rfl rfl ?_
  refine q_callV (k := 0) (ci := 3) (n := 1) (rest := [.ref aB]) (Rr := [wB]) C rfl (k_isO_recv hOo) rfl (c_X4_boxBehind l hZ hI h0 aB aL aS sc ([(h0, .inr (3, [.ref aB, .ref aL, .ref aS, .int (sc 3), .int (sc 5), .int (sc 6), .int (sc 7), .int (sc 8), .int (sc 9), .int (sc 10), .int (sc 11)]))]) hOo wA hA ln wL hL q (by omega)) gX4_correct_X4_boxBehind rfl rfl rfl (by decide +kernel) B.1 ⟨Nat.le_of_ble_eq_true rfl, Nat.le_of_ble_eq_true rfl⟩ rfl rfl (Nat.le_of_ble_eq_true rfl) dX4_correct_15 ⟨Nat.le_of_ble_eq_true rfl, Nat.le_of_ble_eq_true rfl⟩ [0, 1, 3] [2] (by decide : ([0, 1, 3] ++ ([2] : List Nat)).Perm (List.range 4)) rfl rfl 18 rfl (fun v0 R0 t0 ht0 hp0 => ?_)
  obtain ⟨rfl, rfl⟩ := hp0
  refine q_eqs (st' := [.int (nI (k_bb ln sc q)), .ref aB]) rfl ?_
  refine q_reord [0, 1, 3, 2] (by decide : ([0, 1, 3, 2] : List Nat).Perm (List.range 4)) (Rs' := [[(h0, .inr (3, [.ref aB, .ref aL, .ref aS, .int (sc 3), .int (sc 5), .int (sc 6), .int (sc 7), .int (sc 8), .int (sc 9), .int (sc 10), .int (sc 11)]))], wA, wB, wL]) rfl rfl ?_
  have ht15 : k_bb ln sc q < 12 := k_bb_lt hL.1 (by omega)
  refine q_aload_n C dX4_correct_18 19 1 rfl rfl ?_
  refine q_get (k := 0) (j := 0) (f := 1) C hinX4 f21 (fun _ h => h) (by decide) rfl dX4_correct_19 22 rfl rfl rfl rfl ?_
  refine q_iload_n C dX4_correct_22 23 2 rfl rfl ?_
  refine q_callV (k := 3) (ci := 2) (n := 1) (rest := [.int (nI (k_bb ln sc q)), .ref aB]) (Rr := [[(h0, .inr (3, [.ref aB, .ref aL, .ref aS, .int (sc 3), .int (sc 5), .int (sc 6), .int (sc 7), .int (sc 8), .int (sc 9), .int (sc 10), .int (sc 11)]))], wA, wB]) C rfl (k_isL_recv hL) rfl (c_X2_sortAt l hZ hI aL ln wL hL q (by omega)) gX4_correct_X2_sortAt rfl rfl rfl (by decide +kernel) B.1 ⟨Nat.le_of_ble_eq_true rfl, Nat.le_of_ble_eq_true rfl⟩ rfl rfl (Nat.le_of_ble_eq_true rfl) dX4_correct_23 ⟨Nat.le_of_ble_eq_true rfl, Nat.le_of_ble_eq_true rfl⟩ [3] [0, 1, 2] (by decide : ([3] ++ ([0, 1, 2] : List Nat)).Perm (List.range 4)) rfl rfl 26 rfl (fun v0 R0 t0 ht0 hp0 => ?_)
  obtain ⟨rfl, rfl⟩ := hp0
  refine q_eqs (st' := [.int (nI ((k_la ln q).1)), .int (nI (k_bb ln sc q)), .ref aB]) rfl ?_
  refine q_reord [1, 2, 3, 0] (by decide : ([1, 2, 3, 0] : List Nat).Perm (List.range 4)) (Rs' := [[(h0, .inr (3, [.ref aB, .ref aL, .ref aS, .int (sc 3), .int (sc 5), .int (sc 6), .int (sc 7), .int (sc 8), .int (sc 9), .int (sc 10), .int (sc 11)]))], wA, wB, wL]) rfl rfl ?_
  have ht23 : (k_la ln q).1 < 12 := (k_la_lt hL.1 (by omega)).1
  refine q_callV (k := 2) (ci := 0) (n := 2) (rest := []) (Rr := [[(h0, .inr (3, [.ref aB, .ref aL, .ref aS, .int (sc 3), .int (sc 5), .int (sc 6), .int (sc 7), .int (sc 8), .int (sc 9), .int (sc 10), .int (sc 11)]))], wA, wL]) C rfl (k_isB_recv hB) rfl (c_X0_put l hZ hI aB bx at0 wB hB (k_bb ln sc q) ((k_la ln q).1) (by omega) (by omega) (by omega)) gX4_correct_X0_put rfl rfl rfl (by decide +kernel) B.1 ⟨Nat.le_of_ble_eq_true rfl, Nat.le_of_ble_eq_true rfl⟩ rfl rfl (Nat.le_of_ble_eq_true rfl) dX4_correct_26 ⟨Nat.le_of_ble_eq_true rfl, Nat.le_of_ble_eq_true rfl⟩ [2] [0, 1, 3] (by decide : ([2] ++ ([0, 1, 3] : List Nat)).Perm (List.range 4)) rfl rfl 29 rfl (fun v0 R0 t0 ht0 hp0 => ?_)
  obtain ⟨rfl, w_26, hw_26, rfl⟩ := hp0
  refine q_eqs (st' := []) rfl ?_
  refine q_reord [1, 2, 0, 3] (by decide : ([1, 2, 0, 3] : List Nat).Perm (List.range 4)) (Rs' := [[(h0, .inr (3, [.ref aB, .ref aL, .ref aS, .int (sc 3), .int (sc 5), .int (sc 6), .int (sc 7), .int (sc 8), .int (sc 9), .int (sc 10), .int (sc 11)]))], wA, w_26, wL]) rfl rfl ?_
  refine q_aload_n C dX4_correct_29 30 1 rfl rfl ?_
  refine q_get (k := 0) (j := 0) (f := 0) C hinX4 f12 (fun _ h => h) (by decide) rfl dX4_correct_30 33 rfl rfl rfl rfl ?_
  refine q_iload_n C dX4_correct_33 34 0 rfl rfl ?_
  refine q_aload_n C dX4_correct_34 35 1 rfl rfl ?_
  refine q_get (k := 0) (j := 0) (f := 0) C hinX4 f12 (fun _ h => h) (by decide) rfl dX4_correct_35 38 rfl rfl rfl rfl ?_
  refine q_iload_n C dX4_correct_38 39 0 rfl rfl ?_
  refine q_callV (k := 2) (ci := 0) (n := 1) (rest := [.int (nI ((k_la ln q).2)), .ref aB]) (Rr := [[(h0, .inr (3, [.ref aB, .ref aL, .ref aS, .int (sc 3), .int (sc 5), .int (sc 6), .int (sc 7), .int (sc 8), .int (sc 9), .int (sc 10), .int (sc 11)]))], wA, wL]) C rfl (k_isB_recv hw_26) rfl (c_X0_depthOfRight l hZ hI aB (k_put bx (k_bb ln sc q) ((k_la ln q).1)) at0 w_26 hw_26 ((k_la ln q).2) (by omega)) gX4_correct_X0_depthOfRight rfl rfl rfl (by decide +kernel) B.1 ⟨Nat.le_of_ble_eq_true rfl, Nat.le_of_ble_eq_true rfl⟩ rfl rfl (Nat.le_of_ble_eq_true rfl) dX4_correct_39 ⟨Nat.le_of_ble_eq_true rfl, Nat.le_of_ble_eq_true rfl⟩ [2] [0, 1, 3] (by decide : ([2] ++ ([0, 1, 3] : List Nat)).Perm (List.range 4)) rfl rfl 42 rfl (fun v0 R0 t0 ht0 hp0 => ?_)
  obtain ⟨rfl, rfl⟩ := hp0
  refine q_eqs (st' := [.int (k_dp (k_put bx (k_bb ln sc q) ((k_la ln q).1)) ((k_la ln q).2)), .int (nI ((k_la ln q).2)), .ref aB]) rfl ?_
  refine q_reord [1, 2, 0, 3] (by decide : ([1, 2, 0, 3] : List Nat).Perm (List.range 4)) (Rs' := [[(h0, .inr (3, [.ref aB, .ref aL, .ref aS, .int (sc 3), .int (sc 5), .int (sc 6), .int (sc 7), .int (sc 8), .int (sc 9), .int (sc 10), .int (sc 11)]))], wA, w_26, wL]) rfl rfl ?_
  refine q_topi (fun r39 hr39 => ?_)
  have hlk := (hw_26.2.1 (k_la ln q).2 (by omega)).1
  have hr39b := hr39.trans (k_dp_some hk1)
  subst hr39b
  refine q_callV (k := 2) (ci := 0) (n := 2) (rest := []) (Rr := [[(h0, .inr (3, [.ref aB, .ref aL, .ref aS, .int (sc 3), .int (sc 5), .int (sc 6), .int (sc 7), .int (sc 8), .int (sc 9), .int (sc 10), .int (sc 11)]))], wA, wL]) C rfl (k_isB_recv hw_26) rfl (c_X0_dropAt l hZ hI aB (k_put bx (k_bb ln sc q) ((k_la ln q).1)) at0 w_26 hw_26 ((k_la ln q).2) ((k_put bx (k_bb ln sc q) (k_la ln q).1 (k_la ln q).2).length - 1 - k1) (by omega) (by omega)) gX4_correct_X0_dropAt rfl rfl rfl (by decide +kernel) B.1 ⟨Nat.le_of_ble_eq_true rfl, Nat.le_of_ble_eq_true rfl⟩ rfl rfl (Nat.le_of_ble_eq_true rfl) dX4_correct_42 ⟨Nat.le_of_ble_eq_true rfl, Nat.le_of_ble_eq_true rfl⟩ [2] [0, 1, 3] (by decide : ([2] ++ ([0, 1, 3] : List Nat)).Perm (List.range 4)) rfl rfl 45 rfl (fun v0 R0 t0 ht0 hp0 => ?_)
  obtain ⟨rfl, w_42, hw_42, rfl⟩ := hp0
  refine q_eqs (st' := []) rfl ?_
  refine q_reord [1, 2, 0, 3] (by decide : ([1, 2, 0, 3] : List Nat).Perm (List.range 4)) (Rs' := [[(h0, .inr (3, [.ref aB, .ref aL, .ref aS, .int (sc 3), .int (sc 5), .int (sc 6), .int (sc 7), .int (sc 8), .int (sc 9), .int (sc 10), .int (sc 11)]))], wA, w_42, wL]) rfl rfl ?_
  refine q_aload_n C dX4_correct_45 46 1 rfl rfl ?_
  refine q_get (k := 0) (j := 0) (f := 1) C hinX4 f21 (fun _ h => h) (by decide) rfl dX4_correct_46 49 rfl rfl rfl rfl ?_
  refine q_iload_n C dX4_correct_49 50 2 rfl rfl ?_
  refine q_iload_n C dX4_correct_50 51 0 rfl rfl ?_
  refine q_callV (k := 3) (ci := 2) (n := 2) (rest := []) (Rr := [[(h0, .inr (3, [.ref aB, .ref aL, .ref aS, .int (sc 3), .int (sc 5), .int (sc 6), .int (sc 7), .int (sc 8), .int (sc 9), .int (sc 10), .int (sc 11)]))], wA, w_42]) C rfl (k_isL_recv hL) rfl (c_X2_replaceAt l hZ hI aL ln wL hL q ((k_la ln q).2) (by omega) (by omega)) gX4_correct_X2_replaceAt rfl rfl rfl (by decide +kernel) B.1 ⟨Nat.le_of_ble_eq_true rfl, Nat.le_of_ble_eq_true rfl⟩ rfl rfl (Nat.le_of_ble_eq_true rfl) dX4_correct_51 ⟨Nat.le_of_ble_eq_true rfl, Nat.le_of_ble_eq_true rfl⟩ [3] [0, 1, 2] (by decide : ([3] ++ ([0, 1, 2] : List Nat)).Perm (List.range 4)) rfl rfl 54 rfl (fun v0 R0 t0 ht0 hp0 => ?_)
  obtain ⟨rfl, w_51, hw_51, rfl⟩ := hp0
  refine q_eqs (st' := []) rfl ?_
  refine q_reord [1, 2, 3, 0] (by decide : ([1, 2, 3, 0] : List Nat).Perm (List.range 4)) (Rs' := [[(h0, .inr (3, [.ref aB, .ref aL, .ref aS, .int (sc 3), .int (sc 5), .int (sc 6), .int (sc 7), .int (sc 8), .int (sc 9), .int (sc 10), .int (sc 11)]))], wA, w_42, w_51]) rfl rfl ?_
  refine q_aload_n C dX4_correct_54 55 1 rfl rfl ?_
  refine q_dup C dX4_correct_55 56 rfl rfl ?_
  refine q_get (k := 0) (j := 0) (f := 7) C hinX4 f42 (fun _ h => h) (by decide) rfl dX4_correct_56 59 rfl rfl rfl rfl ?_
  refine q_iconst (v := nI 1) C dX4_correct_59 60 rfl (by decide) ?_
  refine q_iadd (v := (sc 8) + (nI 1)) C dX4_correct_60 61 rfl rfl ?_
  refine q_put (k := 0) (j := 0) (f := 7) C hinX4 tyX4 tyX4_ok nmX4 f42 (fun _ h => h) (by decide) rfl rfl (tyX4_ok 7 (by decide)) rfl rfl dX4_correct_61 64 rfl rfl rfl (Nat.le_of_ble_eq_true rfl) [[(h0, .inr (3, [.ref aB, .ref aL, .ref aS, .int (sc 3), .int (sc 5), .int (sc 6), .int (sc 7), .int ((sc 8) + (nI 1)), .int (sc 9), .int (sc 10), .int (sc 11)]))], wA, w_42, w_51] rfl ?_
  refine q_aload_n C dX4_correct_64 65 1 rfl rfl ?_
  refine q_iconst (v := -1) C dX4_correct_65 66 rfl (by decide) ?_
  refine q_put (k := 0) (j := 0) (f := 3) C hinX4 tyX4 tyX4_ok nmX4 f29 (fun _ h => h) (by decide) rfl rfl (tyX4_ok 3 (by decide)) rfl rfl dX4_correct_66 69 rfl rfl rfl (Nat.le_of_ble_eq_true rfl) [[(h0, .inr (3, [.ref aB, .ref aL, .ref aS, .int (-1), .int (sc 5), .int (sc 6), .int (sc 7), .int ((sc 8) + (nI 1)), .int (sc 9), .int (sc 10), .int (sc 11)]))], wA, w_42, w_51] rfl ?_
  have hcut : k_isB cI aB (k_cor (bx, at0, ln, sc) q).1 at0 w_42 := by
    have hcc := hw_42
    rw [show (k_put bx (k_bb ln sc q) (k_la ln q).1 (k_la ln q).2).length - 1 - ((k_put bx (k_bb ln sc q) (k_la ln q).1 (k_la ln q).2).length - 1 - k1) = k1 by omega] at hcc
    show k_isB cI aB (k_cut (k_cb bx ln sc q) (k_la ln q).2 ((k_rt (k_cb bx ln sc q) (k_la ln q).2).getD 0)) at0 _
    rw [show k_rt (k_cb bx ln sc q) (k_la ln q).2 = some k1 from hk1]
    exact hcc
  exact q_vret C B dX4_correct_69 rfl rfl (fun t0 ht0 => ⟨rfl, _, rfl, _, k_isA_upd (k_isA_upd hA (by decide)) (by decide), _, hcut, _, hw_51, by first | rfl | simp⟩)

set_option maxHeartbeats 4000000 in
set_option maxRecDepth 100000 in
theorem c_X4_whyNotReturn (l : Launch) {D : va_G} {tys : List (ClassId × FieldType)} {Z : (Nat → Prop) → State → Heap → Prop} (hZ : q_St Z) {cI : ClassId} (hI : tys[0]? = some (cI, .int)) (hN : q_Ns Z) (h0 : Nat) (aB : Nat) (aL : Nat) (aS : Nat) (sc : Nat → Int32) (wO : va_W) (hO : k_isO cI h0 aB aL aS sc wO) (wA : va_W) (hA : k_isA cI aS sc wA) (bx : k_Bx) (at0 : Nat) (wB : va_W) (hB : k_isB cI aB bx at0 wB) (ln : List (Nat × Nat)) (wL : va_W) (hL : k_isL cI aL ln wL) : q_Ct l D tys Z yX4_whyNotReturn wsX4_whyNotReturn ({ frames := 3, cells := 0, slots := 0, locals := 102 } : Room) 0 0 [.ref h0] [wO, wA, wB, wL] (fun v0 R0 _ => v0 = some (.int (nI (k_wy bx ln sc))) ∧ R0 = [wO, wA, wB, wL]) := by
  have hcI := hI
  refine q_ct (cc := cX4_whyNotReturn) (maxL := 4) (ret := (some .int)) (own := RX4) (by decide) rfl hZ (Nat.le_of_ble_eq_true rfl) rfl ?_
  intro p9 e9 R s9 m9 args below meth c9 A Q C B
  have hts := C.2.2.2.2.1
  have hinX4 : ∀ w ∈ u_ws RX4 TX4 11, w ∈ wsX4_whyNotReturn := by decide +kernel
  have f12 := hts (.fieldLink RX4 12 "SortCases$State" "boxes" "LSortCases$Boxes;") (by decide +kernel)
  have f21 := hts (.fieldLink RX4 21 "SortCases$State" "line" "LSortCases$Line;") (by decide +kernel)
  have hinX2 : ∀ w ∈ u_ws RX2 TX2 3, w ∈ wsX4_whyNotReturn := by decide +kernel
  have f121 := q_nsb hN C (by decide +kernel : Cond.fieldLinkNest "SortCases$State" 121 "SortCases$Line" "length" "I" "SortCases" ∈ q_nest) rfl
  refine q_eqL (L' := [(0, .ref h0)]) rfl ?_
  obtain rfl := hO
  have hOo : k_isO cI h0 aB aL aS sc [(h0, .inr (3, [.ref aB, .ref aL, .ref aS, .int (sc 3), .int (sc 5), .int (sc 6), .int (sc 7), .int (sc 8), .int (sc 9), .int (sc 10), .int (sc 11)]))] := rfl
  obtain ⟨hlok, hs, hl, f1, f2, hrel, rfl⟩ := hL
  have hlen := hlok.1
  have hL : k_isL cI aL ln [(aL, .inr (2, [.ref hs, .ref hl, .int (nI ln.length)])), (hs, .inl (cI, 72, .inl f1)), (hl, .inl (cI, 72, .inl f2))] := ⟨hlok, hs, hl, f1, f2, hrel, rfl⟩
  have hok := hB.2.1
  refine q_iconst (v := nI 0) C dX4_whyNotReturn_0 1 rfl (by decide) ?_
  refine q_istore_n C dX4_whyNotReturn_1 2 rfl [(1, .int (nI 0)), (0, .ref h0)] (by decide) rfl ?_
  have lp : ∀ (kk : Nat) (b : Nat), 12 - b < kk → ∀ (hb : b ≤ 12), ∀ (hu : ∀ u, u < b → (bx u).length + k_rc ln sc u ln.length ≤ 20), q_V p9 l e9 R s9 m9 args below meth c9 D A 4 Q 0 0 2 [(1, .int (nI b)), (0, .ref h0)] [] [[(h0, .inr (3, [.ref aB, .ref aL, .ref aS, .int (sc 3), .int (sc 5), .int (sc 6), .int (sc 7), .int (sc 8), .int (sc 9), .int (sc 10), .int (sc 11)]))], wA, wB, [(aL, .inr (2, [.ref hs, .ref hl, .int (nI ln.length)])), (hs, .inl (cI, 72, .inl f1)), (hl, .inl (cI, 72, .inl f2))]] := by
    intro kk
    induction kk with
    | zero => intro b hkk; exact absurd hkk (Nat.not_lt_zero _)
    | succ kk ih_lp =>
      intro b hkk hb hu
      refine q_iload_n C dX4_whyNotReturn_2 3 0 rfl rfl ?_
      refine q_bipush (v := nI 12) C dX4_whyNotReturn_3 5 rfl (by decide) ?_
      refine q_icmp_ge C dX4_whyNotReturn_5 8 63 rfl (by decide) (nI_leI (by omega) (by omega)) (fun h5 => ?_) (fun h5 => ?_)
      · refine q_iconst (v := nI 0) C dX4_whyNotReturn_63 64 rfl (by decide) ?_
        exact q_iret C B dX4_whyNotReturn_64 rfl rfl (fun t0 ht0 => ⟨by rw [k_wy_0 (fun u hq => hu u (by omega))], rfl⟩)
      · refine q_aload_n C dX4_whyNotReturn_8 9 1 rfl rfl ?_
        refine q_get (k := 0) (j := 0) (f := 0) C hinX4 f12 (fun _ h => h) (by decide) rfl dX4_whyNotReturn_9 12 rfl rfl rfl rfl ?_
        refine q_iload_n C dX4_whyNotReturn_12 13 0 rfl rfl ?_
        refine q_callV (k := 2) (ci := 0) (n := 1) (rest := []) (Rr := [[(h0, .inr (3, [.ref aB, .ref aL, .ref aS, .int (sc 3), .int (sc 5), .int (sc 6), .int (sc 7), .int (sc 8), .int (sc 9), .int (sc 10), .int (sc 11)]))], wA, [(aL, .inr (2, [.ref hs, .ref hl, .int (nI ln.length)])), (hs, .inl (cI, 72, .inl f1)), (hl, .inl (cI, 72, .inl f2))]]) C rfl (k_isB_recv hB) rfl (c_X0_heightOf l hZ hI aB bx at0 wB hB b (by omega)) gX4_whyNotReturn_X0_heightOf rfl rfl rfl (by decide +kernel) B.1 ⟨Nat.le_of_ble_eq_true rfl, Nat.le_of_ble_eq_true rfl⟩ rfl rfl (Nat.le_of_ble_eq_true rfl) dX4_whyNotReturn_13 ⟨Nat.le_of_ble_eq_true rfl, Nat.le_of_ble_eq_true rfl⟩ [2] [0, 1, 3] (by decide : ([2] ++ ([0, 1, 3] : List Nat)).Perm (List.range 4)) rfl rfl 16 rfl (fun v0 R0 t0 ht0 hp0 => ?_)
        obtain ⟨rfl, rfl⟩ := hp0
        refine q_eqs (st' := [.int (nI ((bx b).length))]) rfl ?_
        refine q_reord [1, 2, 0, 3] (by decide : ([1, 2, 0, 3] : List Nat).Perm (List.range 4)) (Rs' := [[(h0, .inr (3, [.ref aB, .ref aL, .ref aS, .int (sc 3), .int (sc 5), .int (sc 6), .int (sc 7), .int (sc 8), .int (sc 9), .int (sc 10), .int (sc 11)]))], wA, wB, [(aL, .inr (2, [.ref hs, .ref hl, .int (nI ln.length)])), (hs, .inl (cI, 72, .inl f1)), (hl, .inl (cI, 72, .inl f2))]]) rfl rfl ?_
        have hh13 : (bx b).length ≤ 20 := (hB.2.1 b (by omega)).1
        refine q_istore_n C dX4_whyNotReturn_16 17 rfl [(2, .int (nI ((bx b).length))), (1, .int (nI b)), (0, .ref h0)] (by decide) rfl ?_
        refine q_iconst (v := nI 0) C dX4_whyNotReturn_17 18 rfl (by decide) ?_
        refine q_istore_n C dX4_whyNotReturn_18 19 rfl [(3, .int (nI 0)), (2, .int (nI ((bx b).length))), (1, .int (nI b)), (0, .ref h0)] (by decide) rfl ?_
        have lp2 : ∀ (kk : Nat) (i : Nat) (n : Nat), ln.length - i < kk → ∀ (hi : i ≤ ln.length), ∀ (hn : n = (bx b).length + k_rc ln sc b i), ∀ (hn2 : n ≤ 20 + i), q_V p9 l e9 R s9 m9 args below meth c9 D A 4 Q 0 0 19 [(3, .int (nI i)), (2, .int (nI n)), (0, .ref h0), (1, .int (nI b))] [] [[(h0, .inr (3, [.ref aB, .ref aL, .ref aS, .int (sc 3), .int (sc 5), .int (sc 6), .int (sc 7), .int (sc 8), .int (sc 9), .int (sc 10), .int (sc 11)]))], wA, wB, [(aL, .inr (2, [.ref hs, .ref hl, .int (nI ln.length)])), (hs, .inl (cI, 72, .inl f1)), (hl, .inl (cI, 72, .inl f2))]] := by
          intro kk
          induction kk with
          | zero => intro i n hkk; exact absurd hkk (Nat.not_lt_zero _)
          | succ kk ih_lp2 =>
            intro i n hkk hi hn hn2
            refine q_iload_n C dX4_whyNotReturn_19 20 0 rfl rfl ?_
            refine q_aload_n C dX4_whyNotReturn_20 21 2 rfl rfl ?_
            refine q_get (k := 0) (j := 0) (f := 1) C hinX4 f21 (fun _ h => h) (by decide) rfl dX4_whyNotReturn_21 24 rfl rfl rfl rfl ?_
            refine q_getN (k := 3) (j := 0) (f := 2) C hinX2 f121 (fun _ h => h) (by decide) rfl dX4_whyNotReturn_24 27 rfl rfl rfl rfl ?_
            refine q_icmp_ge C dX4_whyNotReturn_27 30 48 rfl (by decide) (nI_leI (by omega) (by omega)) (fun h27 => ?_) (fun h27 => ?_)
            · refine q_iload_n C dX4_whyNotReturn_48 49 1 rfl rfl ?_
              refine q_bipush (v := nI 20) C dX4_whyNotReturn_49 51 rfl (by decide) ?_
              refine q_icmp_le C dX4_whyNotReturn_51 54 57 rfl (by decide) (nI_leI (by omega) (by omega)) (fun h51 => ?_) (fun h51 => ?_)
              · refine q_iinc (v := nI (b + 1)) C dX4_whyNotReturn_57 60 3 rfl rfl (q_ninc1 (by omega)) [(1, .int (nI (b + 1))), (3, .int (nI i)), (2, .int (nI n)), (0, .ref h0)] (by decide) rfl ?_
                refine q_goto C dX4_whyNotReturn_60 2 (by decide) ?_
                refine q_sub (L' := [(1, .int (nI (b + 1))), (0, .ref h0)]) [0, 3] rfl ?_
                exact ih_lp (b + 1) (by omega) (by omega) (fun u hq => (Decidable.em (u = b)).elim (fun e => by subst e; rw [← show i = ln.length by omega, ← hn]; omega) (fun e => hu u (by omega)))
              · refine q_bipush (v := nI 6) C dX4_whyNotReturn_54 56 rfl (by decide) ?_
                exact q_iret C B dX4_whyNotReturn_56 rfl rfl (fun t0 ht0 => ⟨by rw [k_wy_6 (b := b) (by omega) (by rw [← show i = ln.length by omega, ← hn]; omega) hu], rfl⟩)
            · refine q_aload_n C dX4_whyNotReturn_30 31 2 rfl rfl ?_
              refine q_iload_n C dX4_whyNotReturn_31 32 0 rfl rfl ?_
              refine q_callV (k := 0) (ci := 3) (n := 1) (rest := []) (Rr := [wB]) C rfl (k_isO_recv hOo) rfl (c_X4_boxBehind l hZ hI h0 aB aL aS sc ([(h0, .inr (3, [.ref aB, .ref aL, .ref aS, .int (sc 3), .int (sc 5), .int (sc 6), .int (sc 7), .int (sc 8), .int (sc 9), .int (sc 10), .int (sc 11)]))]) hOo wA hA ln ([(aL, .inr (2, [.ref hs, .ref hl, .int (nI ln.length)])), (hs, .inl (cI, 72, .inl f1)), (hl, .inl (cI, 72, .inl f2))]) hL i (by omega)) gX4_whyNotReturn_X4_boxBehind rfl rfl rfl (by decide +kernel) B.1 ⟨Nat.le_of_ble_eq_true rfl, Nat.le_of_ble_eq_true rfl⟩ rfl rfl (Nat.le_of_ble_eq_true rfl) dX4_whyNotReturn_32 ⟨Nat.le_of_ble_eq_true rfl, Nat.le_of_ble_eq_true rfl⟩ [0, 1, 3] [2] (by decide : ([0, 1, 3] ++ ([2] : List Nat)).Perm (List.range 4)) rfl rfl 35 rfl (fun v0 R0 t0 ht0 hp0 => ?_)
              obtain ⟨rfl, rfl⟩ := hp0
              refine q_eqs (st' := [.int (nI (k_bb ln sc i))]) rfl ?_
              refine q_reord [0, 1, 3, 2] (by decide : ([0, 1, 3, 2] : List Nat).Perm (List.range 4)) (Rs' := [[(h0, .inr (3, [.ref aB, .ref aL, .ref aS, .int (sc 3), .int (sc 5), .int (sc 6), .int (sc 7), .int (sc 8), .int (sc 9), .int (sc 10), .int (sc 11)]))], wA, wB, [(aL, .inr (2, [.ref hs, .ref hl, .int (nI ln.length)])), (hs, .inl (cI, 72, .inl f1)), (hl, .inl (cI, 72, .inl f2))]]) rfl rfl ?_
              have ht32 : k_bb ln sc i < 12 := k_bb_lt hL.1 (by omega)
              refine q_iload_n C dX4_whyNotReturn_35 36 3 rfl rfl ?_
              refine q_icmp_ne C dX4_whyNotReturn_36 39 42 rfl (by decide) (nI_eq (by omega) (by omega)) (fun h36 => ?_) (fun h36 => ?_)
              · refine q_iinc (v := nI (i + 1)) C dX4_whyNotReturn_42 45 0 rfl rfl (q_ninc1 (by omega)) [(3, .int (nI (i + 1))), (2, .int (nI n)), (0, .ref h0), (1, .int (nI b))] (by decide) rfl ?_
                refine q_goto C dX4_whyNotReturn_45 19 (by decide) ?_
                refine q_sub (L' := [(3, .int (nI (i + 1))), (2, .int (nI n)), (0, .ref h0), (1, .int (nI b))]) [0, 1, 2, 3] rfl ?_
                exact ih_lp2 (i + 1) n (by omega) (by omega) (by unfold k_rc at hn ⊢; first | (rw [k_cnt_t (by simp; omega)]; omega) | (rw [k_cnt_f (by simp; omega)]; omega)) (by omega)
              · refine q_iinc (v := nI (n + 1)) C dX4_whyNotReturn_39 42 1 rfl rfl (q_ninc1 (by omega)) [(2, .int (nI (n + 1))), (3, .int (nI i)), (0, .ref h0), (1, .int (nI b))] (by decide) rfl ?_
                refine q_iinc (v := nI (i + 1)) C dX4_whyNotReturn_42 45 1 rfl rfl (q_ninc1 (by omega)) [(3, .int (nI (i + 1))), (2, .int (nI (n + 1))), (0, .ref h0), (1, .int (nI b))] (by decide) rfl ?_
                refine q_goto C dX4_whyNotReturn_45 19 (by decide) ?_
                refine q_sub (L' := [(3, .int (nI (i + 1))), (2, .int (nI (n + 1))), (0, .ref h0), (1, .int (nI b))]) [0, 1, 2, 3] rfl ?_
                exact ih_lp2 (i + 1) (n + 1) (by omega) (by omega) (by unfold k_rc at hn ⊢; first | (rw [k_cnt_t (by simp; omega)]; omega) | (rw [k_cnt_f (by simp; omega)]; omega)) (by omega)
        refine q_sub (L' := [(3, .int (nI 0)), (2, .int (nI ((bx b).length))), (0, .ref h0), (1, .int (nI b))]) [0, 1, 3, 2] rfl ?_
        exact lp2 _ 0 ((bx b).length) (Nat.lt_succ_self _) (by omega) rfl (by omega)
  refine q_sub (L' := [(1, .int (nI 0)), (0, .ref h0)]) [0, 1] rfl ?_
  exact lp _ 0 (Nat.lt_succ_self _) (by omega) (fun u hu => absurd hu (Nat.not_lt_zero u))

set_option maxHeartbeats 4000000 in
set_option maxRecDepth 100000 in
theorem c_X4_exchange (l : Launch) {D : va_G} {tys : List (ClassId × FieldType)} {Z : (Nat → Prop) → State → Heap → Prop} (hZ : q_St Z) {cI : ClassId} (hI : tys[0]? = some (cI, .int)) (h0 : Nat) (aB : Nat) (aL : Nat) (aS : Nat) (sc : Nat → Int32) (wO : va_W) (hO : k_isO cI h0 aB aL aS sc wO) (wA : va_W) (hA : k_isA cI aS sc wA) (bx : k_Bx) (at0 : Nat) (wB : va_W) (hB : k_isB cI aB bx at0 wB) (b : Nat) (o : Nat) (hb : b < 12) (ho : o < 12) : q_Ct l D tys Z yX4_exchange wsX4_exchange ({ frames := 3, cells := 0, slots := 0, locals := 102 } : Room) 0 0 [.ref h0, .int (nI b), .int (nI o)] [wO, wA, wB] (fun v0 R0 _ => v0 = none ∧ ∃ wO', k_isO cI h0 aB aL aS (upd sc 3 (-1)) wO' ∧ ∃ wA', k_isA cI aS (upd sc 3 (-1)) wA' ∧ ∃ wB', k_isB cI aB (k_ex bx b o) at0 wB' ∧ R0 = [wO', wA', wB']) := by
  have hcI := hI
  refine q_ct (cc := cX4_exchange) (maxL := 3) (ret := none) (own := RX4) (by decide) rfl hZ (Nat.le_of_ble_eq_true rfl) rfl ?_
  intro p9 e9 R s9 m9 args below meth c9 A Q C B
  have hts := C.2.2.2.2.1
  have hinX4 : ∀ w ∈ u_ws RX4 TX4 11, w ∈ wsX4_exchange := by decide +kernel
  have f12 := hts (.fieldLink RX4 12 "SortCases$State" "boxes" "LSortCases$Boxes;") (by decide +kernel)
  have f29 := hts (.fieldLink RX4 29 "SortCases$State" "hand" "I") (by decide +kernel)
  refine q_eqL (L' := [(0, .ref h0), (1, .int (nI b)), (2, .int (nI o))]) rfl ?_
  obtain rfl := hO
  have hOo : k_isO cI h0 aB aL aS sc [(h0, .inr (3, [.ref aB, .ref aL, .ref aS, .int (sc 3), .int (sc 5), .int (sc 6), .int (sc 7), .int (sc 8), .int (sc 9), .int (sc 10), .int (sc 11)]))] := rfl
  refine q_aload_n C dX4_exchange_0 1 0 rfl rfl ?_
  refine q_get (k := 0) (j := 0) (f := 0) C hinX4 f12 (fun _ h => h) (by decide) rfl dX4_exchange_1 4 rfl rfl rfl rfl ?_
  refine q_iload_n C dX4_exchange_4 5 1 rfl rfl ?_
  refine q_iload_n C dX4_exchange_5 6 2 rfl rfl ?_
  refine q_callV (k := 2) (ci := 0) (n := 2) (rest := []) (Rr := [[(h0, .inr (3, [.ref aB, .ref aL, .ref aS, .int (sc 3), .int (sc 5), .int (sc 6), .int (sc 7), .int (sc 8), .int (sc 9), .int (sc 10), .int (sc 11)]))], wA]) C rfl (k_isB_recv hB) rfl (c_X0_exchangeUpmost l hZ hI aB bx at0 wB hB b o (by omega) (by omega)) gX4_exchange_X0_exchangeUpmost rfl rfl rfl (by decide +kernel) B.1 ⟨Nat.le_of_ble_eq_true rfl, Nat.le_of_ble_eq_true rfl⟩ rfl rfl (Nat.le_of_ble_eq_true rfl) dX4_exchange_6 ⟨Nat.le_of_ble_eq_true rfl, Nat.le_of_ble_eq_true rfl⟩ [2] [0, 1] (by decide : ([2] ++ ([0, 1] : List Nat)).Perm (List.range 3)) rfl rfl 9 rfl (fun v0 R0 t0 ht0 hp0 => ?_)
  obtain ⟨rfl, w_6, hw_6, rfl⟩ := hp0
  refine q_eqs (st' := []) rfl ?_
  refine q_reord [1, 2, 0] (by decide : ([1, 2, 0] : List Nat).Perm (List.range 3)) (Rs' := [[(h0, .inr (3, [.ref aB, .ref aL, .ref aS, .int (sc 3), .int (sc 5), .int (sc 6), .int (sc 7), .int (sc 8), .int (sc 9), .int (sc 10), .int (sc 11)]))], wA, w_6]) rfl rfl ?_
  refine q_aload_n C dX4_exchange_9 10 0 rfl rfl ?_
  refine q_iconst (v := -1) C dX4_exchange_10 11 rfl (by decide) ?_
  refine q_put (k := 0) (j := 0) (f := 3) C hinX4 tyX4 tyX4_ok nmX4 f29 (fun _ h => h) (by decide) rfl rfl (tyX4_ok 3 (by decide)) rfl rfl dX4_exchange_11 14 rfl rfl rfl (Nat.le_of_ble_eq_true rfl) [[(h0, .inr (3, [.ref aB, .ref aL, .ref aS, .int (-1), .int (sc 5), .int (sc 6), .int (sc 7), .int (sc 8), .int (sc 9), .int (sc 10), .int (sc 11)]))], wA, w_6] rfl ?_
  exact q_vret C B dX4_exchange_14 rfl rfl (fun t0 ht0 => ⟨rfl, _, rfl, _, k_isA_upd hA (by decide), _, hw_6, by first | rfl | simp⟩)

set_option maxHeartbeats 4000000 in
set_option maxRecDepth 100000 in
theorem c_X4_wrongBySorts (l : Launch) {D : va_G} {tys : List (ClassId × FieldType)} {Z : (Nat → Prop) → State → Heap → Prop} (hZ : q_St Z) {cI : ClassId} (hI : tys[0]? = some (cI, .int)) (h0 : Nat) (aB : Nat) (aL : Nat) (aS : Nat) (sc : Nat → Int32) (wO : va_W) (hO : k_isO cI h0 aB aL aS sc wO) (wA : va_W) (hA : k_isA cI aS sc wA) (bx : k_Bx) (at0 : Nat) (wB : va_W) (hB : k_isB cI aB bx at0 wB) (ln : List (Nat × Nat)) (wL : va_W) (hL : k_isL cI aL ln wL) (hcs : ∀ x, x < 12 → k_cn bx x x + k_cl ln x ≤ 6) : q_Ct l D tys Z yX4_wrongBySorts wsX4_wrongBySorts ({ frames := 3, cells := 0, slots := 0, locals := 102 } : Room) 0 0 [.ref h0] [wO, wA, wB, wL] (fun v0 R0 _ => v0 = some (.int (nI (k_ws bx ln))) ∧ R0 = [wO, wA, wB, wL]) := by
  have hcI := hI
  refine q_ct (cc := cX4_wrongBySorts) (maxL := 3) (ret := (some .int)) (own := RX4) (by decide) rfl hZ (Nat.le_of_ble_eq_true rfl) rfl ?_
  intro p9 e9 R s9 m9 args below meth c9 A Q C B
  have hts := C.2.2.2.2.1
  have hinX4 : ∀ w ∈ u_ws RX4 TX4 11, w ∈ wsX4_wrongBySorts := by decide +kernel
  have f12 := hts (.fieldLink RX4 12 "SortCases$State" "boxes" "LSortCases$Boxes;") (by decide +kernel)
  have f21 := hts (.fieldLink RX4 21 "SortCases$State" "line" "LSortCases$Line;") (by decide +kernel)
  refine q_eqL (L' := [(0, .ref h0)]) rfl ?_
  obtain rfl := hO
  have hOo : k_isO cI h0 aB aL aS sc [(h0, .inr (3, [.ref aB, .ref aL, .ref aS, .int (sc 3), .int (sc 5), .int (sc 6), .int (sc 7), .int (sc 8), .int (sc 9), .int (sc 10), .int (sc 11)]))] := rfl
  refine q_iconst (v := nI 0) C dX4_wrongBySorts_0 1 rfl (by decide) ?_
  refine q_istore_n C dX4_wrongBySorts_1 2 rfl [(1, .int (nI 0)), (0, .ref h0)] (by decide) rfl ?_
  refine q_iconst (v := nI 0) C dX4_wrongBySorts_2 3 rfl (by decide) ?_
  refine q_istore_n C dX4_wrongBySorts_3 4 rfl [(2, .int (nI 0)), (1, .int (nI 0)), (0, .ref h0)] (by decide) rfl ?_
  have lp : ∀ (kk : Nat) (i : Nat) (n : Nat), 12 - i < kk → ∀ (hi : i ≤ 12), ∀ (hn : n = k_sum (fun x => 6 - k_cn bx x x - k_cl ln x) i), q_V p9 l e9 R s9 m9 args below meth c9 D A 3 Q 0 0 4 [(2, .int (nI i)), (1, .int (nI n)), (0, .ref h0)] [] [[(h0, .inr (3, [.ref aB, .ref aL, .ref aS, .int (sc 3), .int (sc 5), .int (sc 6), .int (sc 7), .int (sc 8), .int (sc 9), .int (sc 10), .int (sc 11)]))], wA, wB, wL] := by
    intro kk
    induction kk with
    | zero => intro i n hkk; exact absurd hkk (Nat.not_lt_zero _)
    | succ kk ih_lp =>
      intro i n hkk hi hn
      refine q_iload_n C dX4_wrongBySorts_4 5 0 rfl rfl ?_
      refine q_bipush (v := nI 12) C dX4_wrongBySorts_5 7 rfl (by decide) ?_
      refine q_icmp_ge C dX4_wrongBySorts_7 10 40 rfl (by decide) (nI_leI (by omega) (by omega)) (fun h7 => ?_) (fun h7 => ?_)
      · refine q_iload_n C dX4_wrongBySorts_40 41 1 rfl rfl ?_
        exact q_iret C B dX4_wrongBySorts_41 rfl rfl (fun t0 ht0 => ⟨by rw [hn, show i = 12 by omega]; rfl, rfl⟩)
      · refine q_iload_n C dX4_wrongBySorts_10 11 1 rfl rfl ?_
        refine q_bipush (v := nI 6) C dX4_wrongBySorts_11 13 rfl (by decide) ?_
        have hci := hcs i (by omega)
        refine q_aload_n C dX4_wrongBySorts_13 14 2 rfl rfl ?_
        refine q_get (k := 0) (j := 0) (f := 0) C hinX4 f12 (fun _ h => h) (by decide) rfl dX4_wrongBySorts_14 17 rfl rfl rfl rfl ?_
        refine q_iload_n C dX4_wrongBySorts_17 18 0 rfl rfl ?_
        refine q_iload_n C dX4_wrongBySorts_18 19 0 rfl rfl ?_
        refine q_callV (k := 2) (ci := 0) (n := 2) (rest := [.int (nI 6), .int (nI n)]) (Rr := [[(h0, .inr (3, [.ref aB, .ref aL, .ref aS, .int (sc 3), .int (sc 5), .int (sc 6), .int (sc 7), .int (sc 8), .int (sc 9), .int (sc 10), .int (sc 11)]))], wA, wL]) C rfl (k_isB_recv hB) rfl (c_X0_countIn l hZ hI aB bx at0 wB hB i i (by omega) (by omega)) gX4_wrongBySorts_X0_countIn rfl rfl rfl (by decide +kernel) B.1 ⟨Nat.le_of_ble_eq_true rfl, Nat.le_of_ble_eq_true rfl⟩ rfl rfl (Nat.le_of_ble_eq_true rfl) dX4_wrongBySorts_19 ⟨Nat.le_of_ble_eq_true rfl, Nat.le_of_ble_eq_true rfl⟩ [2] [0, 1, 3] (by decide : ([2] ++ ([0, 1, 3] : List Nat)).Perm (List.range 4)) rfl rfl 22 rfl (fun v0 R0 t0 ht0 hp0 => ?_)
        obtain ⟨rfl, rfl⟩ := hp0
        refine q_eqs (st' := [.int (nI (k_cn bx i i)), .int (nI 6), .int (nI n)]) rfl ?_
        refine q_reord [1, 2, 0, 3] (by decide : ([1, 2, 0, 3] : List Nat).Perm (List.range 4)) (Rs' := [[(h0, .inr (3, [.ref aB, .ref aL, .ref aS, .int (sc 3), .int (sc 5), .int (sc 6), .int (sc 7), .int (sc 8), .int (sc 9), .int (sc 10), .int (sc 11)]))], wA, wB, wL]) rfl rfl ?_
        have hc19 : k_cn bx i i ≤ (bx i).length := k_cn_le _ _ _
        refine q_isub (v := nI (6 - k_cn bx i i)) C dX4_wrongBySorts_22 23 rfl (q_nsub (by omega) (by omega)) ?_
        refine q_aload_n C dX4_wrongBySorts_23 24 2 rfl rfl ?_
        refine q_get (k := 0) (j := 0) (f := 1) C hinX4 f21 (fun _ h => h) (by decide) rfl dX4_wrongBySorts_24 27 rfl rfl rfl rfl ?_
        refine q_iload_n C dX4_wrongBySorts_27 28 0 rfl rfl ?_
        refine q_callV (k := 3) (ci := 2) (n := 1) (rest := [.int (nI (6 - k_cn bx i i)), .int (nI n)]) (Rr := [[(h0, .inr (3, [.ref aB, .ref aL, .ref aS, .int (sc 3), .int (sc 5), .int (sc 6), .int (sc 7), .int (sc 8), .int (sc 9), .int (sc 10), .int (sc 11)]))], wA, wB]) C rfl (k_isL_recv hL) rfl (c_X2_countOf l hZ hI aL ln wL hL i (by omega)) gX4_wrongBySorts_X2_countOf rfl rfl rfl (by decide +kernel) B.1 ⟨Nat.le_of_ble_eq_true rfl, Nat.le_of_ble_eq_true rfl⟩ rfl rfl (Nat.le_of_ble_eq_true rfl) dX4_wrongBySorts_28 ⟨Nat.le_of_ble_eq_true rfl, Nat.le_of_ble_eq_true rfl⟩ [3] [0, 1, 2] (by decide : ([3] ++ ([0, 1, 2] : List Nat)).Perm (List.range 4)) rfl rfl 31 rfl (fun v0 R0 t0 ht0 hp0 => ?_)
        obtain ⟨rfl, rfl⟩ := hp0
        refine q_eqs (st' := [.int (nI (k_cl ln i)), .int (nI (6 - k_cn bx i i)), .int (nI n)]) rfl ?_
        refine q_reord [1, 2, 3, 0] (by decide : ([1, 2, 3, 0] : List Nat).Perm (List.range 4)) (Rs' := [[(h0, .inr (3, [.ref aB, .ref aL, .ref aS, .int (sc 3), .int (sc 5), .int (sc 6), .int (sc 7), .int (sc 8), .int (sc 9), .int (sc 10), .int (sc 11)]))], wA, wB, wL]) rfl rfl ?_
        have hc28 : k_cl ln i ≤ (ln).length := k_cl_le _ _
        refine q_isub (v := nI (6 - k_cn bx i i - k_cl ln i)) C dX4_wrongBySorts_31 32 rfl (q_nsub (by omega) (by omega)) ?_
        refine q_iadd (v := nI (n + 6 - k_cn bx i i - k_cl ln i)) C dX4_wrongBySorts_32 33 rfl (q_nadd (by omega)) ?_
        refine q_istore_n C dX4_wrongBySorts_33 34 rfl [(1, .int (nI (n + 6 - k_cn bx i i - k_cl ln i))), (2, .int (nI i)), (0, .ref h0)] (by decide) rfl ?_
        refine q_iinc (v := nI (i + 1)) C dX4_wrongBySorts_34 37 1 rfl rfl (q_ninc1 (by omega)) [(2, .int (nI (i + 1))), (1, .int (nI (n + 6 - k_cn bx i i - k_cl ln i))), (0, .ref h0)] (by decide) rfl ?_
        refine q_goto C dX4_wrongBySorts_37 4 (by decide) ?_
        refine q_sub (L' := [(2, .int (nI (i + 1))), (1, .int (nI (n + 6 - k_cn bx i i - k_cl ln i))), (0, .ref h0)]) [0, 1, 2] rfl ?_
        exact ih_lp (i + 1) (n + 6 - k_cn bx i i - k_cl ln i) (by omega) (by omega) (by rw [k_sum_s]; omega)
  refine q_sub (L' := [(2, .int (nI 0)), (1, .int (nI 0)), (0, .ref h0)]) [0, 1, 2] rfl ?_
  exact lp _ 0 0 (Nat.lt_succ_self _) (by omega) rfl

