set_option maxHeartbeats 400000 in
set_option maxRecDepth 100000 in
theorem c_X5_init (l : Launch) {D : va_G} {tys : List (ClassId × FieldType)} {Z : (Nat → Prop) → State → Heap → Prop} (hZ : q_St Z) {cI : ClassId} (hI : tys[0]? = some (cI, .int)) (h0 : Nat) (w : va_W) (h : k_i5 cI h0 w) : q_Ct l D tys Z yX5_init wsX5_init ({ frames := 1, cells := 1, slots := 60, locals := 42 } : Room) 1 60 [.ref h0] [w] (fun v0 R0 _ => v0 = none ∧ ∃ w', k_isT cI h0 [] w' ∧ R0 = [w']) := by
  have hcI := hI
  refine q_ct (cc := cX5_init) (maxL := 1) (ret := none) (own := RX5) (by decide) rfl hZ (Nat.le_of_ble_eq_true rfl) rfl ?_
  intro p9 e9 R s9 m9 args below meth c9 A Q C B
  have hts := C.2.2.2.2.1
  have oi1 := hts (.methodLink RX5 3 objectInit) (by decide +kernel)
  have oi2 := hts (.instanceMethod objectInit) (by decide +kernel)
  have oi3 := hts (.code objectInit ⟨#[0xb1]⟩ 1 none) (by decide +kernel)
  have arc := hts (.arrayClass .int) (by decide +kernel)
  have hinX5 : ∀ w ∈ u_ws RX5 TX5 2, w ∈ wsX5_init := by decide +kernel
  have f9 := hts (.fieldLink RX5 9 "SortCases$Text" "codes" "[I") (by decide +kernel)
  have f15 := hts (.fieldLink RX5 15 "SortCases$Text" "length" "I") (by decide +kernel)
  refine q_eqL (L' := [(0, .ref h0)]) rfl ?_
  obtain rfl := h
  refine q_aload_n C dX5_init_0 1 0 rfl rfl ?_
  refine q_objInit C oi1 oi2 oi3 B.1 (Nat.le_of_ble_eq_true rfl) (Nat.le_of_ble_eq_true rfl) dX5_init_1 4 rfl ?_
  refine q_aload_n C dX5_init_4 5 0 rfl rfl ?_
  refine q_bipush (v := nI 60) C dX5_init_5 7 rfl (by decide) ?_
  refine q_newa (N := 60) C hcI arc B.1 dX5_init_7 9 rfl (by decide) (by decide) (by decide) (Nat.le_of_ble_eq_true rfl) (Nat.le_of_ble_eq_true rfl) (fun q7 => ?_)
  refine q_putF (k := 0) (j := 0) (f := 0) C hinX5 tyX5 tyX5_ok nmX5 f9 (fun _ h => h) (by decide) rfl rfl B.2.2.2.2.2 rfl (tyX5_ok 0 (by decide)) rfl rfl dX5_init_9 12 rfl rfl rfl (Nat.le_of_ble_eq_true rfl) [[(h0, .inr (4, [.ref q7, .int 0]))], [(q7, .inl (cI, 60, .inl (fun _ => 0)))]] rfl ?_
  refine q_aload_n C dX5_init_12 13 0 rfl rfl ?_
  refine q_iconst (v := nI 0) C dX5_init_13 14 rfl (by decide) ?_
  refine q_put (k := 0) (j := 0) (f := 1) C hinX5 tyX5 tyX5_ok nmX5 f15 (fun _ h => h) (by decide) rfl rfl (tyX5_ok 1 (by decide)) rfl rfl dX5_init_14 17 rfl rfl rfl (Nat.le_of_ble_eq_true rfl) [[(h0, .inr (4, [.ref q7, .int (nI 0)]))], [(q7, .inl (cI, 60, .inl (fun _ => 0)))]] rfl ?_
  refine q_resp (Rs' := [[(h0, .inr (4, [.ref q7, .int (nI 0)])), (q7, .inl (cI, 60, .inl (fun _ => 0)))]]) rfl ?_
  exact q_vret C B dX5_init_17 rfl rfl (fun t0 ht0 => ⟨rfl, _, ⟨k_Tok_nil, _, _, fun i hi => absurd hi (Nat.not_lt_zero i), rfl⟩, rfl⟩)

set_option maxHeartbeats 400000 in
set_option maxRecDepth 100000 in
theorem c_X2_init (l : Launch) {D : va_G} {tys : List (ClassId × FieldType)} {Z : (Nat → Prop) → State → Heap → Prop} (hZ : q_St Z) {cI : ClassId} (hI : tys[0]? = some (cI, .int)) (h0 : Nat) (w : va_W) (h : k_i2 cI h0 w) : q_Ct l D tys Z yX2_init wsX2_init ({ frames := 1, cells := 2, slots := 144, locals := 42 } : Room) 2 144 [.ref h0] [w] (fun v0 R0 _ => v0 = none ∧ ∃ w', k_isL cI h0 [] w' ∧ R0 = [w']) := by
  have hcI := hI
  refine q_ct (cc := cX2_init) (maxL := 1) (ret := none) (own := RX2) (by decide) rfl hZ (Nat.le_of_ble_eq_true rfl) rfl ?_
  intro p9 e9 R s9 m9 args below meth c9 A Q C B
  have hts := C.2.2.2.2.1
  have oi1 := hts (.methodLink RX2 3 objectInit) (by decide +kernel)
  have oi2 := hts (.instanceMethod objectInit) (by decide +kernel)
  have oi3 := hts (.code objectInit ⟨#[0xb1]⟩ 1 none) (by decide +kernel)
  have arc := hts (.arrayClass .int) (by decide +kernel)
  have hinX2 : ∀ w ∈ u_ws RX2 TX2 3, w ∈ wsX2_init := by decide +kernel
  have f9 := hts (.fieldLink RX2 9 "SortCases$Line" "sorts" "[I") (by decide +kernel)
  have f15 := hts (.fieldLink RX2 15 "SortCases$Line" "letters" "[I") (by decide +kernel)
  have f18 := hts (.fieldLink RX2 18 "SortCases$Line" "length" "I") (by decide +kernel)
  refine q_eqL (L' := [(0, .ref h0)]) rfl ?_
  obtain rfl := h
  refine q_aload_n C dX2_init_0 1 0 rfl rfl ?_
  refine q_objInit C oi1 oi2 oi3 B.1 (Nat.le_of_ble_eq_true rfl) (Nat.le_of_ble_eq_true rfl) dX2_init_1 4 rfl ?_
  refine q_aload_n C dX2_init_4 5 0 rfl rfl ?_
  refine q_bipush (v := nI 72) C dX2_init_5 7 rfl (by decide) ?_
  refine q_newa (N := 72) C hcI arc B.1 dX2_init_7 9 rfl (by decide) (by decide) (by decide) (Nat.le_of_ble_eq_true rfl) (Nat.le_of_ble_eq_true rfl) (fun q7 => ?_)
  refine q_putF (k := 0) (j := 0) (f := 0) C hinX2 tyX2 tyX2_ok nmX2 f9 (fun _ h => h) (by decide) rfl rfl B.2.2.2.2.2 rfl (tyX2_ok 0 (by decide)) rfl rfl dX2_init_9 12 rfl rfl rfl (Nat.le_of_ble_eq_true rfl) [[(h0, .inr (2, [.ref q7, .null, .int 0]))], [(q7, .inl (cI, 72, .inl (fun _ => 0)))]] rfl ?_
  refine q_aload_n C dX2_init_12 13 0 rfl rfl ?_
  refine q_bipush (v := nI 72) C dX2_init_13 15 rfl (by decide) ?_
  refine q_newa (N := 72) C hcI arc B.1 dX2_init_15 17 rfl (by decide) (by decide) (by decide) (Nat.le_of_ble_eq_true rfl) (Nat.le_of_ble_eq_true rfl) (fun q15 => ?_)
  refine q_putF (k := 0) (j := 0) (f := 1) C hinX2 tyX2 tyX2_ok nmX2 f15 (fun _ h => h) (by decide) rfl rfl B.2.2.2.2.2 rfl (tyX2_ok 1 (by decide)) rfl rfl dX2_init_17 20 rfl rfl rfl (Nat.le_of_ble_eq_true rfl) [[(h0, .inr (2, [.ref q7, .ref q15, .int 0]))], [(q7, .inl (cI, 72, .inl (fun _ => 0)))], [(q15, .inl (cI, 72, .inl (fun _ => 0)))]] rfl ?_
  refine q_aload_n C dX2_init_20 21 0 rfl rfl ?_
  refine q_iconst (v := nI 0) C dX2_init_21 22 rfl (by decide) ?_
  refine q_put (k := 0) (j := 0) (f := 2) C hinX2 tyX2 tyX2_ok nmX2 f18 (fun _ h => h) (by decide) rfl rfl (tyX2_ok 2 (by decide)) rfl rfl dX2_init_22 25 rfl rfl rfl (Nat.le_of_ble_eq_true rfl) [[(h0, .inr (2, [.ref q7, .ref q15, .int (nI 0)]))], [(q7, .inl (cI, 72, .inl (fun _ => 0)))], [(q15, .inl (cI, 72, .inl (fun _ => 0)))]] rfl ?_
  refine q_resp (Rs' := [[(h0, .inr (2, [.ref q7, .ref q15, .int (nI 0)])), (q7, .inl (cI, 72, .inl (fun _ => 0))), (q15, .inl (cI, 72, .inl (fun _ => 0)))]]) rfl ?_
  exact q_vret C B dX2_init_25 rfl rfl (fun t0 ht0 => ⟨rfl, _, ⟨k_Lok_nil, _, _, _, _, fun i hi => absurd hi (Nat.not_lt_zero i), rfl⟩, rfl⟩)

set_option maxHeartbeats 400000 in
set_option maxRecDepth 100000 in
theorem c_X0_init (l : Launch) {D : va_G} {tys : List (ClassId × FieldType)} {Z : (Nat → Prop) → State → Heap → Prop} (hZ : q_St Z) {cI : ClassId} (hI : tys[0]? = some (cI, .int)) (h0 : Nat) (w : va_W) (h : k_i0 cI h0 w) : q_Ct l D tys Z yX0_init wsX0_init ({ frames := 2, cells := 2, slots := 252, locals := 72 } : Room) 2 252 [.ref h0] [w] (fun v0 R0 _ => v0 = none ∧ ∃ w', k_isB cI h0 (k_bi 12 0) 0 w' ∧ R0 = [w']) := by
  have hcI := hI
  refine q_ct (cc := cX0_init) (maxL := 3) (ret := none) (own := RX0) (by decide) rfl hZ (Nat.le_of_ble_eq_true rfl) rfl ?_
  intro p9 e9 R s9 m9 args below meth c9 A Q C B
  have hts := C.2.2.2.2.1
  have oi1 := hts (.methodLink RX0 3 objectInit) (by decide +kernel)
  have oi2 := hts (.instanceMethod objectInit) (by decide +kernel)
  have oi3 := hts (.code objectInit ⟨#[0xb1]⟩ 1 none) (by decide +kernel)
  have arc := hts (.arrayClass .int) (by decide +kernel)
  have hinX0 : ∀ w ∈ u_ws RX0 TX0 3, w ∈ wsX0_init := by decide +kernel
  have f9 := hts (.fieldLink RX0 9 "SortCases$Boxes" "sorts" "[I") (by decide +kernel)
  have f15 := hts (.fieldLink RX0 15 "SortCases$Boxes" "heights" "[I") (by decide +kernel)
  have f18 := hts (.fieldLink RX0 18 "SortCases$Boxes" "sortedBox" "I") (by decide +kernel)
  refine q_eqL (L' := [(0, .ref h0)]) rfl ?_
  obtain rfl := h
  refine q_aload_n C dX0_init_0 1 0 rfl rfl ?_
  refine q_objInit C oi1 oi2 oi3 B.1 (Nat.le_of_ble_eq_true rfl) (Nat.le_of_ble_eq_true rfl) dX0_init_1 4 rfl ?_
  refine q_aload_n C dX0_init_4 5 0 rfl rfl ?_
  refine q_sipush (v := nI 240) C dX0_init_5 8 rfl (by decide) ?_
  refine q_newa (N := 240) C hcI arc B.1 dX0_init_8 10 rfl (by decide) (by decide) (by decide) (Nat.le_of_ble_eq_true rfl) (Nat.le_of_ble_eq_true rfl) (fun q8 => ?_)
  refine q_putF (k := 0) (j := 0) (f := 0) C hinX0 tyX0 tyX0_ok nmX0 f9 (fun _ h => h) (by decide) rfl rfl B.2.2.2.2.2 rfl (tyX0_ok 0 (by decide)) rfl rfl dX0_init_10 13 rfl rfl rfl (Nat.le_of_ble_eq_true rfl) [[(h0, .inr (0, [.ref q8, .null, .int 0]))], [(q8, .inl (cI, 240, .inl (fun _ => 0)))]] rfl ?_
  refine q_aload_n C dX0_init_13 14 0 rfl rfl ?_
  refine q_bipush (v := nI 12) C dX0_init_14 16 rfl (by decide) ?_
  refine q_newa (N := 12) C hcI arc B.1 dX0_init_16 18 rfl (by decide) (by decide) (by decide) (Nat.le_of_ble_eq_true rfl) (Nat.le_of_ble_eq_true rfl) (fun q16 => ?_)
  refine q_putF (k := 0) (j := 0) (f := 1) C hinX0 tyX0 tyX0_ok nmX0 f15 (fun _ h => h) (by decide) rfl rfl B.2.2.2.2.2 rfl (tyX0_ok 1 (by decide)) rfl rfl dX0_init_18 21 rfl rfl rfl (Nat.le_of_ble_eq_true rfl) [[(h0, .inr (0, [.ref q8, .ref q16, .int 0]))], [(q8, .inl (cI, 240, .inl (fun _ => 0)))], [(q16, .inl (cI, 12, .inl (fun _ => 0)))]] rfl ?_
  refine q_aload_n C dX0_init_21 22 0 rfl rfl ?_
  refine q_iconst (v := nI 0) C dX0_init_22 23 rfl (by decide) ?_
  refine q_put (k := 0) (j := 0) (f := 2) C hinX0 tyX0 tyX0_ok nmX0 f18 (fun _ h => h) (by decide) rfl rfl (tyX0_ok 2 (by decide)) rfl rfl dX0_init_23 26 rfl rfl rfl (Nat.le_of_ble_eq_true rfl) [[(h0, .inr (0, [.ref q8, .ref q16, .int (nI 0)]))], [(q8, .inl (cI, 240, .inl (fun _ => 0)))], [(q16, .inl (cI, 12, .inl (fun _ => 0)))]] rfl ?_
  refine q_resp (Rs' := [[(h0, .inr (0, [.ref q8, .ref q16, .int (nI 0)])), (q8, .inl (cI, 240, .inl (fun _ => 0))), (q16, .inl (cI, 12, .inl (fun _ => 0)))]]) rfl ?_
  have hB0 : k_isB cI h0 (k_bi 0 0) 0 [(h0, .inr (0, [.ref q8, .ref q16, .int (nI 0)])), (q8, .inl (cI, 240, .inl (fun _ => 0))), (q16, .inl (cI, 12, .inl (fun _ => 0)))] := k_bi_isB
  refine q_iconst (v := nI 0) C dX0_init_26 27 rfl (by decide) ?_
  refine q_istore_n C dX0_init_27 28 rfl [(1, .int (nI 0)), (0, .ref h0)] (by decide) rfl ?_
  have lp : ∀ (kk : Nat) (j : Nat) (wb : va_W), 12 - j < kk → ∀ (hj : j ≤ 12), ∀ (hwb : k_isB cI h0 (k_bi j 0) 0 wb), q_V p9 l e9 R s9 m9 args below meth c9 D A 3 Q ((0 + 1) + 1) ((0 + 240) + 12) 28 [(1, .int (nI j)), (0, .ref h0)] [] [wb] := by
    intro kk
    induction kk with
    | zero => intro j wb hkk; exact absurd hkk (Nat.not_lt_zero _)
    | succ kk ih_lp =>
      intro j wb hkk hj hwb
      refine q_iload_n C dX0_init_28 29 0 rfl rfl ?_
      refine q_bipush (v := nI 12) C dX0_init_29 31 rfl (by decide) ?_
      refine q_icmp_ge C dX0_init_31 34 60 rfl (by decide) (nI_leI (by omega) (by omega)) (fun h31 => ?_) (fun h31 => ?_)
      · obtain rfl : j = 12 := by omega
        exact q_vret C B dX0_init_60 rfl rfl (fun t0 ht0 => ⟨rfl, _, hwb, rfl⟩)
      · refine q_iconst (v := nI 0) C dX0_init_34 35 rfl (by decide) ?_
        refine q_istore_n C dX0_init_35 36 rfl [(2, .int (nI 0)), (1, .int (nI j)), (0, .ref h0)] (by decide) rfl ?_
        have lp2 : ∀ (kk : Nat) (i : Nat) (wc : va_W), 6 - i < kk → ∀ (hi : i ≤ 6), ∀ (hwc : k_isB cI h0 (k_bi j i) 0 wc), q_V p9 l e9 R s9 m9 args below meth c9 D A 3 Q ((0 + 1) + 1) ((0 + 240) + 12) 36 [(2, .int (nI i)), (1, .int (nI j)), (0, .ref h0)] [] [wc] := by
          intro kk
          induction kk with
          | zero => intro i wc hkk; exact absurd hkk (Nat.not_lt_zero _)
          | succ kk ih_lp2 =>
            intro i wc hkk hi hwc
            refine q_iload_n C dX0_init_36 37 0 rfl rfl ?_
            refine q_bipush (v := nI 6) C dX0_init_37 39 rfl (by decide) ?_
            refine q_icmp_ge C dX0_init_39 42 54 rfl (by decide) (nI_leI (by omega) (by omega)) (fun h39 => ?_) (fun h39 => ?_)
            · refine q_iinc (v := nI (j + 1)) C dX0_init_54 57 1 rfl rfl (q_ninc1 (by omega)) [(1, .int (nI (j + 1))), (2, .int (nI i)), (0, .ref h0)] (by decide) rfl ?_
              refine q_goto C dX0_init_57 28 (by decide) ?_
              refine q_sub (L' := [(1, .int (nI (j + 1))), (0, .ref h0)]) [0, 2] rfl ?_
              exact ih_lp (j + 1) wc (by omega) (by omega) (by rw [← k_bi_6, ← show i = 6 by omega]; exact hwc)
            · refine q_aload_n C dX0_init_42 43 2 rfl rfl ?_
              refine q_iload_n C dX0_init_43 44 1 rfl rfl ?_
              refine q_iload_n C dX0_init_44 45 1 rfl rfl ?_
              refine q_callV (k := 0) (ci := 0) (n := 2) (rest := []) (Rr := []) C rfl (k_isB_recv hwc) rfl (c_X0_put l hZ hI h0 ((k_bi j i)) 0 wc hwc j j (by omega) (by rw [k_bi_len]; omega) (by omega)) gX0_init_X0_put rfl rfl rfl (by decide +kernel) B.1 ⟨Nat.le_of_ble_eq_true rfl, Nat.le_of_ble_eq_true rfl⟩ rfl rfl (Nat.le_of_ble_eq_true rfl) dX0_init_45 ⟨Nat.le_of_ble_eq_true rfl, Nat.le_of_ble_eq_true rfl⟩ [0] [] (by decide : ([0] ++ ([] : List Nat)).Perm (List.range 1)) rfl rfl 48 rfl (fun v0 R0 t0 ht0 hp0 => ?_)
              obtain ⟨rfl, w_45, hw_45, rfl⟩ := hp0
              refine q_eqs (st' := []) rfl ?_
              refine q_eqR (Rs' := [w_45]) rfl ?_
              refine q_iinc (v := nI (i + 1)) C dX0_init_48 51 0 rfl rfl (q_ninc1 (by omega)) [(2, .int (nI (i + 1))), (1, .int (nI j)), (0, .ref h0)] (by decide) rfl ?_
              refine q_goto C dX0_init_51 36 (by decide) ?_
              refine q_sub (L' := [(2, .int (nI (i + 1))), (1, .int (nI j)), (0, .ref h0)]) [0, 1, 2] rfl ?_
              exact ih_lp2 (i + 1) w_45 (by omega) (by omega) (by rw [← k_bi_put]; exact hw_45)
        refine q_sub (L' := [(2, .int (nI 0)), (1, .int (nI j)), (0, .ref h0)]) [0, 1, 2] rfl ?_
        exact lp2 _ 0 wb (Nat.lt_succ_self _) (by omega) hwb
  refine q_sub (L' := [(1, .int (nI 0)), (0, .ref h0)]) [0, 1] rfl ?_
  exact lp _ 0 ([(h0, .inr (0, [.ref q8, .ref q16, .int (nI 0)])), (q8, .inl (cI, 240, .inl (fun _ => 0))), (q16, .inl (cI, 12, .inl (fun _ => 0)))]) (Nat.lt_succ_self _) (by omega) hB0

set_option maxHeartbeats 400000 in
set_option maxRecDepth 100000 in
theorem c_X4_init (l : Launch) {D : va_G} {tys : List (ClassId × FieldType)} {Z : (Nat → Prop) → State → Heap → Prop} (hZ : q_St Z) {cI : ClassId} (hI : tys[0]? = some (cI, .int)) (hN : q_Ns Z) (h0 : Nat) (w : va_W) (h : k_i4 cI h0 w) : q_Ct l D tys Z yX4_init wsX4_init ({ frames := 3, cells := 7, slots := 405, locals := 102 } : Room) 7 405 [.ref h0] [w] (fun v0 R0 _ => v0 = none ∧ ∃ aB aL aS wO wA wB wL, k_isO cI h0 aB aL aS k_sc0 wO ∧ k_isA cI aS k_sc0 wA ∧ k_isB cI aB (k_bi 12 0) 0 wB ∧ k_isL cI aL [] wL ∧ R0 = [wO, wB, wL, wA]) := by
  have hcI := hI
  refine q_ct (cc := cX4_init) (maxL := 1) (ret := none) (own := RX4) (by decide) rfl hZ (Nat.le_of_ble_eq_true rfl) rfl ?_
  intro p9 e9 R s9 m9 args below meth c9 A Q C B
  have hts := C.2.2.2.2.1
  have oi1 := hts (.methodLink RX4 3 objectInit) (by decide +kernel)
  have oi2 := hts (.instanceMethod objectInit) (by decide +kernel)
  have oi3 := hts (.code objectInit ⟨#[0xb1]⟩ 1 none) (by decide +kernel)
  have hinX0 : ∀ w ∈ u_ws RX0 TX0 3, w ∈ wsX4_init := by decide +kernel
  have cl9 := hts (.classLink RX4 9 RX0) (by decide +kernel)
  have instX0 := hts (.instantiable RX0 3) (by decide +kernel)
  have iniX0 := hts (.initialized RX0) (by decide +kernel)
  have mlk_X0_init := hts (.methodLink RX4 11 yX0_init) (by decide +kernel)
  have ins_X0_init := hts (.instanceMethod yX0_init) (by decide +kernel)
  have hinX4 : ∀ w ∈ u_ws RX4 TX4 11, w ∈ wsX4_init := by decide +kernel
  have f12 := hts (.fieldLink RX4 12 "SortCases$State" "boxes" "LSortCases$Boxes;") (by decide +kernel)
  have hinX2 : ∀ w ∈ u_ws RX2 TX2 3, w ∈ wsX4_init := by decide +kernel
  have cl18 := hts (.classLink RX4 18 RX2) (by decide +kernel)
  have instX2 := hts (.instantiable RX2 3) (by decide +kernel)
  have iniX2 := hts (.initialized RX2) (by decide +kernel)
  have nst_X2_init := q_nst hN C (by decide +kernel : Cond.methodLinkNest "SortCases$State" 20 yX2_init "SortCases" ∈ q_nest)
  have ins_X2_init := hts (.instanceMethod yX2_init) (by decide +kernel)
  have f21 := hts (.fieldLink RX4 21 "SortCases$State" "line" "LSortCases$Line;") (by decide +kernel)
  have arc := hts (.arrayClass .int) (by decide +kernel)
  have f25 := hts (.fieldLink RX4 25 "SortCases$State" "settings" "[I") (by decide +kernel)
  have f29 := hts (.fieldLink RX4 29 "SortCases$State" "hand" "I") (by decide +kernel)
  have f33 := hts (.fieldLink RX4 33 "SortCases$State" "lettersSet" "I") (by decide +kernel)
  have f36 := hts (.fieldLink RX4 36 "SortCases$State" "typesMoved" "I") (by decide +kernel)
  have f39 := hts (.fieldLink RX4 39 "SortCases$State" "beatsPassed" "I") (by decide +kernel)
  have f42 := hts (.fieldLink RX4 42 "SortCases$State" "corrections" "I") (by decide +kernel)
  have f45 := hts (.fieldLink RX4 45 "SortCases$State" "linesReturned" "I") (by decide +kernel)
  have f48 := hts (.fieldLink RX4 48 "SortCases$State" "stopPart" "I") (by decide +kernel)
  have f51 := hts (.fieldLink RX4 51 "SortCases$State" "stopReason" "I") (by decide +kernel)
  refine q_eqL (L' := [(0, .ref h0)]) rfl ?_
  obtain rfl := h
  refine q_aload_n C dX4_init_0 1 0 rfl rfl ?_
  refine q_objInit C oi1 oi2 oi3 B.1 (Nat.le_of_ble_eq_true rfl) (Nat.le_of_ble_eq_true rfl) dX4_init_1 4 rfl ?_
  refine q_aload_n C dX4_init_4 5 0 rfl rfl ?_
  refine q_new (ci := 0) (fs := [.null, .null, .int 0]) C hinX0 tyX0 tyX0_ok cl9 instX0 iniX0 rfl (by intro j hj; match j, hj with | 0, _ => rfl | 1, _ => rfl | 2, _ => rfl) B.1 (Nat.le_of_ble_eq_true rfl) (Nat.le_of_ble_eq_true rfl) dX4_init_5 8 rfl (fun q5 => ?_)
  have hn5 : k_i0 cI q5 [(q5, .inr (0, [.null, .null, .int 0]))] := rfl
  refine q_dup C dX4_init_8 9 rfl rfl ?_
  refine q_callI (n := 0) (rest := [.ref q5, .ref h0]) (Rr := [[(h0, .inr (3, [.null, .null, .null, .int 0, .int 0, .int 0, .int 0, .int 0, .int 0, .int 0, .int 0]))]]) C (c_X0_init l hZ hI q5 ([(q5, .inr (0, [.null, .null, .int 0]))]) hn5) gX4_init_X0_init rfl rfl rfl iniX0 mlk_X0_init (ins_X0_init) rfl (by decide +kernel) B.1 ⟨Nat.le_of_ble_eq_true rfl, Nat.le_of_ble_eq_true rfl⟩ rfl rfl (Nat.le_of_ble_eq_true rfl) dX4_init_9 ⟨Nat.le_of_ble_eq_true rfl, Nat.le_of_ble_eq_true rfl⟩ [1] [0] (by decide : ([1] ++ ([0] : List Nat)).Perm (List.range 2)) rfl rfl 12 rfl (fun v0 R0 t0 ht0 hp0 => ?_)
  obtain ⟨rfl, wn9, hwn9, rfl⟩ := hp0
  refine q_eqs (st' := [.ref q5, .ref h0]) rfl ?_
  refine q_reord [1, 0] (by decide : ([1, 0] : List Nat).Perm (List.range 2)) (Rs' := [[(h0, .inr (3, [.null, .null, .null, .int 0, .int 0, .int 0, .int 0, .int 0, .int 0, .int 0, .int 0]))], wn9]) rfl rfl ?_
  refine q_putF (k := 0) (j := 0) (f := 0) C hinX4 tyX4 tyX4_ok nmX4 f12 (fun _ h => h) (by decide) rfl rfl B.2.2.2.2.2 rfl (tyX4_ok 0 (by decide)) rfl rfl dX4_init_12 15 rfl rfl rfl (Nat.le_of_ble_eq_true rfl) [[(h0, .inr (3, [.ref q5, .null, .null, .int 0, .int 0, .int 0, .int 0, .int 0, .int 0, .int 0, .int 0]))], wn9] rfl ?_
  refine q_aload_n C dX4_init_15 16 0 rfl rfl ?_
  refine q_new (ci := 2) (fs := [.null, .null, .int 0]) C hinX2 tyX2 tyX2_ok cl18 instX2 iniX2 rfl (by intro j hj; match j, hj with | 0, _ => rfl | 1, _ => rfl | 2, _ => rfl) B.1 (Nat.le_of_ble_eq_true rfl) (Nat.le_of_ble_eq_true rfl) dX4_init_16 19 rfl (fun q16 => ?_)
  have hn16 : k_i2 cI q16 [(q16, .inr (2, [.null, .null, .int 0]))] := rfl
  refine q_dup C dX4_init_19 20 rfl rfl ?_
  refine q_callIN (n := 0) (rest := [.ref q16, .ref h0]) (Rr := [[(h0, .inr (3, [.ref q5, .null, .null, .int 0, .int 0, .int 0, .int 0, .int 0, .int 0, .int 0, .int 0]))], wn9]) C (c_X2_init l hZ hI q16 ([(q16, .inr (2, [.null, .null, .int 0]))]) hn16) gX4_init_X2_init_n20 rfl rfl rfl nst_X2_init iniX2 rfl (ins_X2_init) (by decide +kernel) B.1 ⟨Nat.le_of_ble_eq_true rfl, Nat.le_of_ble_eq_true rfl⟩ rfl rfl (Nat.le_of_ble_eq_true rfl) dX4_init_20 ⟨Nat.le_of_ble_eq_true rfl, Nat.le_of_ble_eq_true rfl⟩ [2] [0, 1] (by decide : ([2] ++ ([0, 1] : List Nat)).Perm (List.range 3)) rfl rfl 23 rfl (fun v0 R0 t0 ht0 hp0 => ?_)
  obtain ⟨rfl, wn20, hwn20, rfl⟩ := hp0
  refine q_eqs (st' := [.ref q16, .ref h0]) rfl ?_
  refine q_reord [1, 2, 0] (by decide : ([1, 2, 0] : List Nat).Perm (List.range 3)) (Rs' := [[(h0, .inr (3, [.ref q5, .null, .null, .int 0, .int 0, .int 0, .int 0, .int 0, .int 0, .int 0, .int 0]))], wn9, wn20]) rfl rfl ?_
  refine q_putF (k := 0) (j := 0) (f := 1) C hinX4 tyX4 tyX4_ok nmX4 f21 (fun _ h => h) (by decide) rfl rfl B.2.2.2.2.2 rfl (tyX4_ok 1 (by decide)) rfl rfl dX4_init_23 26 rfl rfl rfl (Nat.le_of_ble_eq_true rfl) [[(h0, .inr (3, [.ref q5, .ref q16, .null, .int 0, .int 0, .int 0, .int 0, .int 0, .int 0, .int 0, .int 0]))], wn9, wn20] rfl ?_
  refine q_aload_n C dX4_init_26 27 0 rfl rfl ?_
  refine q_iconst (v := nI 3) C dX4_init_27 28 rfl (by decide) ?_
  refine q_newa (N := 3) C hcI arc B.1 dX4_init_28 30 rfl (by decide) (by decide) (by decide) (Nat.le_of_ble_eq_true rfl) (Nat.le_of_ble_eq_true rfl) (fun q28 => ?_)
  refine q_dup C dX4_init_30 31 rfl rfl ?_
  refine q_iconst (v := nI 0) C dX4_init_31 32 rfl (by decide) ?_
  refine q_bipush (v := nI 60) C dX4_init_32 34 rfl (by decide) ?_
  refine q_iast (k := 3) (j := 0) C dX4_init_34 35 rfl rfl rfl hcI 0 rfl (by omega) (by decide) [[(h0, .inr (3, [.ref q5, .ref q16, .null, .int 0, .int 0, .int 0, .int 0, .int 0, .int 0, .int 0, .int 0]))], wn9, wn20, [(q28, .inl (cI, 3, .inl (upd (fun _ => 0) 0 (nI 60))))]] rfl ?_
  refine q_dup C dX4_init_35 36 rfl rfl ?_
  refine q_iconst (v := nI 1) C dX4_init_36 37 rfl (by decide) ?_
  refine q_iconst (v := nI 1) C dX4_init_37 38 rfl (by decide) ?_
  refine q_iast (k := 3) (j := 0) C dX4_init_38 39 rfl rfl rfl hcI 1 rfl (by omega) (by decide) [[(h0, .inr (3, [.ref q5, .ref q16, .null, .int 0, .int 0, .int 0, .int 0, .int 0, .int 0, .int 0, .int 0]))], wn9, wn20, [(q28, .inl (cI, 3, .inl (upd (upd (fun _ => 0) 0 (nI 60)) 1 (nI 1))))]] rfl ?_
  refine q_dup C dX4_init_39 40 rfl rfl ?_
  refine q_iconst (v := nI 2) C dX4_init_40 41 rfl (by decide) ?_
  refine q_iconst (v := nI 1) C dX4_init_41 42 rfl (by decide) ?_
  refine q_iast (k := 3) (j := 0) C dX4_init_42 43 rfl rfl rfl hcI 2 rfl (by omega) (by decide) [[(h0, .inr (3, [.ref q5, .ref q16, .null, .int 0, .int 0, .int 0, .int 0, .int 0, .int 0, .int 0, .int 0]))], wn9, wn20, [(q28, .inl (cI, 3, .inl (upd (upd (upd (fun _ => 0) 0 (nI 60)) 1 (nI 1)) 2 (nI 1))))]] rfl ?_
  refine q_putF (k := 0) (j := 0) (f := 2) C hinX4 tyX4 tyX4_ok nmX4 f25 (fun _ h => h) (by decide) rfl rfl B.2.2.2.2.2 rfl (tyX4_ok 2 (by decide)) rfl rfl dX4_init_43 46 rfl rfl rfl (Nat.le_of_ble_eq_true rfl) [[(h0, .inr (3, [.ref q5, .ref q16, .ref q28, .int 0, .int 0, .int 0, .int 0, .int 0, .int 0, .int 0, .int 0]))], wn9, wn20, [(q28, .inl (cI, 3, .inl (upd (upd (upd (fun _ => 0) 0 (nI 60)) 1 (nI 1)) 2 (nI 1))))]] rfl ?_
  refine q_aload_n C dX4_init_46 47 0 rfl rfl ?_
  refine q_iconst (v := -1) C dX4_init_47 48 rfl (by decide) ?_
  refine q_put (k := 0) (j := 0) (f := 3) C hinX4 tyX4 tyX4_ok nmX4 f29 (fun _ h => h) (by decide) rfl rfl (tyX4_ok 3 (by decide)) rfl rfl dX4_init_48 51 rfl rfl rfl (Nat.le_of_ble_eq_true rfl) [[(h0, .inr (3, [.ref q5, .ref q16, .ref q28, .int (-1), .int 0, .int 0, .int 0, .int 0, .int 0, .int 0, .int 0]))], wn9, wn20, [(q28, .inl (cI, 3, .inl (upd (upd (upd (fun _ => 0) 0 (nI 60)) 1 (nI 1)) 2 (nI 1))))]] rfl ?_
  refine q_aload_n C dX4_init_51 52 0 rfl rfl ?_
  refine q_iconst (v := nI 0) C dX4_init_52 53 rfl (by decide) ?_
  refine q_put (k := 0) (j := 0) (f := 4) C hinX4 tyX4 tyX4_ok nmX4 f33 (fun _ h => h) (by decide) rfl rfl (tyX4_ok 4 (by decide)) rfl rfl dX4_init_53 56 rfl rfl rfl (Nat.le_of_ble_eq_true rfl) [[(h0, .inr (3, [.ref q5, .ref q16, .ref q28, .int (-1), .int (nI 0), .int 0, .int 0, .int 0, .int 0, .int 0, .int 0]))], wn9, wn20, [(q28, .inl (cI, 3, .inl (upd (upd (upd (fun _ => 0) 0 (nI 60)) 1 (nI 1)) 2 (nI 1))))]] rfl ?_
  refine q_aload_n C dX4_init_56 57 0 rfl rfl ?_
  refine q_iconst (v := nI 0) C dX4_init_57 58 rfl (by decide) ?_
  refine q_put (k := 0) (j := 0) (f := 5) C hinX4 tyX4 tyX4_ok nmX4 f36 (fun _ h => h) (by decide) rfl rfl (tyX4_ok 5 (by decide)) rfl rfl dX4_init_58 61 rfl rfl rfl (Nat.le_of_ble_eq_true rfl) [[(h0, .inr (3, [.ref q5, .ref q16, .ref q28, .int (-1), .int (nI 0), .int (nI 0), .int 0, .int 0, .int 0, .int 0, .int 0]))], wn9, wn20, [(q28, .inl (cI, 3, .inl (upd (upd (upd (fun _ => 0) 0 (nI 60)) 1 (nI 1)) 2 (nI 1))))]] rfl ?_
  refine q_aload_n C dX4_init_61 62 0 rfl rfl ?_
  refine q_iconst (v := nI 0) C dX4_init_62 63 rfl (by decide) ?_
  refine q_put (k := 0) (j := 0) (f := 6) C hinX4 tyX4 tyX4_ok nmX4 f39 (fun _ h => h) (by decide) rfl rfl (tyX4_ok 6 (by decide)) rfl rfl dX4_init_63 66 rfl rfl rfl (Nat.le_of_ble_eq_true rfl) [[(h0, .inr (3, [.ref q5, .ref q16, .ref q28, .int (-1), .int (nI 0), .int (nI 0), .int (nI 0), .int 0, .int 0, .int 0, .int 0]))], wn9, wn20, [(q28, .inl (cI, 3, .inl (upd (upd (upd (fun _ => 0) 0 (nI 60)) 1 (nI 1)) 2 (nI 1))))]] rfl ?_
  refine q_aload_n C dX4_init_66 67 0 rfl rfl ?_
  refine q_iconst (v := nI 0) C dX4_init_67 68 rfl (by decide) ?_
  refine q_put (k := 0) (j := 0) (f := 7) C hinX4 tyX4 tyX4_ok nmX4 f42 (fun _ h => h) (by decide) rfl rfl (tyX4_ok 7 (by decide)) rfl rfl dX4_init_68 71 rfl rfl rfl (Nat.le_of_ble_eq_true rfl) [[(h0, .inr (3, [.ref q5, .ref q16, .ref q28, .int (-1), .int (nI 0), .int (nI 0), .int (nI 0), .int (nI 0), .int 0, .int 0, .int 0]))], wn9, wn20, [(q28, .inl (cI, 3, .inl (upd (upd (upd (fun _ => 0) 0 (nI 60)) 1 (nI 1)) 2 (nI 1))))]] rfl ?_
  refine q_aload_n C dX4_init_71 72 0 rfl rfl ?_
  refine q_iconst (v := nI 0) C dX4_init_72 73 rfl (by decide) ?_
  refine q_put (k := 0) (j := 0) (f := 8) C hinX4 tyX4 tyX4_ok nmX4 f45 (fun _ h => h) (by decide) rfl rfl (tyX4_ok 8 (by decide)) rfl rfl dX4_init_73 76 rfl rfl rfl (Nat.le_of_ble_eq_true rfl) [[(h0, .inr (3, [.ref q5, .ref q16, .ref q28, .int (-1), .int (nI 0), .int (nI 0), .int (nI 0), .int (nI 0), .int (nI 0), .int 0, .int 0]))], wn9, wn20, [(q28, .inl (cI, 3, .inl (upd (upd (upd (fun _ => 0) 0 (nI 60)) 1 (nI 1)) 2 (nI 1))))]] rfl ?_
  refine q_aload_n C dX4_init_76 77 0 rfl rfl ?_
  refine q_iconst (v := -1) C dX4_init_77 78 rfl (by decide) ?_
  refine q_put (k := 0) (j := 0) (f := 9) C hinX4 tyX4 tyX4_ok nmX4 f48 (fun _ h => h) (by decide) rfl rfl (tyX4_ok 9 (by decide)) rfl rfl dX4_init_78 81 rfl rfl rfl (Nat.le_of_ble_eq_true rfl) [[(h0, .inr (3, [.ref q5, .ref q16, .ref q28, .int (-1), .int (nI 0), .int (nI 0), .int (nI 0), .int (nI 0), .int (nI 0), .int (-1), .int 0]))], wn9, wn20, [(q28, .inl (cI, 3, .inl (upd (upd (upd (fun _ => 0) 0 (nI 60)) 1 (nI 1)) 2 (nI 1))))]] rfl ?_
  refine q_aload_n C dX4_init_81 82 0 rfl rfl ?_
  refine q_iconst (v := -1) C dX4_init_82 83 rfl (by decide) ?_
  refine q_put (k := 0) (j := 0) (f := 10) C hinX4 tyX4 tyX4_ok nmX4 f51 (fun _ h => h) (by decide) rfl rfl (tyX4_ok 10 (by decide)) rfl rfl dX4_init_83 86 rfl rfl rfl (Nat.le_of_ble_eq_true rfl) [[(h0, .inr (3, [.ref q5, .ref q16, .ref q28, .int (-1), .int (nI 0), .int (nI 0), .int (nI 0), .int (nI 0), .int (nI 0), .int (-1), .int (-1)]))], wn9, wn20, [(q28, .inl (cI, 3, .inl (upd (upd (upd (fun _ => 0) 0 (nI 60)) 1 (nI 1)) 2 (nI 1))))]] rfl ?_
  exact q_vret C B dX4_init_86 rfl rfl (fun t0 ht0 => ⟨rfl, _, _, _, _, _, _, _, rfl, ⟨_, k_sc0_A, rfl⟩, hwn9, hwn20, rfl⟩)

set_option maxHeartbeats 400000 in
set_option maxRecDepth 100000 in
theorem c_X7_init (l : Launch) {D : va_G} {tys : List (ClassId × FieldType)} {Z : (Nat → Prop) → State → Heap → Prop} (hZ : q_St Z) {cI : ClassId} (hI : tys[0]? = some (cI, .int)) (h0 : Nat) (w : va_W) (h : k_i6 cI h0 w) : q_Ct l D tys Z yX7_init wsX7_init ({ frames := 3, cells := 6, slots := 3274, locals := 102 } : Room) 6 3274 [.ref h0] [w] (fun v0 R0 _ => v0 = none ∧ ∃ aS aZ aV aN aU aD wP wQ wZ wV wN wU wD, k_isP cI h0 aS aZ aV aN aU aD (fun _ => 0) 0 wP ∧ k_isQ cI aS (k_bi 12 0) 0 [] k_sc0 wQ ∧ k_isQ cI aZ (fun _ => []) 0 [] (fun _ => 0) wZ ∧ k_isV cI aV [] wV ∧ k_isQ cI aN (fun _ => []) 0 [] (fun _ => 0) wN ∧ k_isU cI aU [] wU ∧ k_isD cI aD [] [] wD ∧ R0 = [wP, wQ, wZ, wV, wN, wU, wD]) := by
  have hcI := hI
  refine q_ct (cc := cX7_init) (maxL := 3) (ret := none) (own := RX7) (by decide) rfl hZ (Nat.le_of_ble_eq_true rfl) rfl ?_
  intro p9 e9 R s9 m9 args below meth c9 A Q C B
  have hts := C.2.2.2.2.1
  have oi1 := hts (.methodLink RX7 1 objectInit) (by decide +kernel)
  have oi2 := hts (.instanceMethod objectInit) (by decide +kernel)
  have oi3 := hts (.code objectInit ⟨#[0xb1]⟩ 1 none) (by decide +kernel)
  have arc := hts (.arrayClass .int) (by decide +kernel)
  have hinX7 : ∀ w ∈ u_ws RX7 TX7 16, w ∈ wsX7_init := by decide +kernel
  have f7 := hts (.fieldLink RX7 7 "SortCasesModel" "s" "[I") (by decide +kernel)
  have f13 := hts (.fieldLink RX7 13 "SortCasesModel" "aside" "[I") (by decide +kernel)
  have f16 := hts (.fieldLink RX7 16 "SortCasesModel" "saved" "[I") (by decide +kernel)
  have f19 := hts (.fieldLink RX7 19 "SortCasesModel" "snapshot" "[I") (by decide +kernel)
  have f22 := hts (.fieldLink RX7 22 "SortCasesModel" "buffer" "[I") (by decide +kernel)
  have f25 := hts (.fieldLink RX7 25 "SortCasesModel" "read" "[I") (by decide +kernel)
  have f28 := hts (.fieldLink RX7 28 "SortCasesModel" "thrown" "I") (by decide +kernel)
  refine q_eqL (L' := [(0, .ref h0)]) rfl ?_
  obtain rfl := h
  refine q_aload_n C dX7_init_0 1 0 rfl rfl ?_
  refine q_objInit C oi1 oi2 oi3 B.1 (Nat.le_of_ble_eq_true rfl) (Nat.le_of_ble_eq_true rfl) dX7_init_1 4 rfl ?_
  refine q_aload_n C dX7_init_4 5 0 rfl rfl ?_
  refine q_sipush (v := nI 350) C dX7_init_5 8 rfl (by decide) ?_
  refine q_newa (N := 350) C hcI arc B.1 dX7_init_8 10 rfl (by decide) (by decide) (by decide) (Nat.le_of_ble_eq_true rfl) (Nat.le_of_ble_eq_true rfl) (fun q8 => ?_)
  refine q_putF (k := 0) (j := 0) (f := 1) C hinX7 tyX7 tyX7_ok nmX7 f7 (fun _ h => h) (by decide) rfl rfl B.2.2.2.2.2 rfl (tyX7_ok 1 (by decide)) rfl rfl dX7_init_10 13 rfl rfl rfl (Nat.le_of_ble_eq_true rfl) [[(h0, .inr (6, [.int 0, .ref q8, .null, .null, .int 0, .null, .int 0, .null, .int 0, .int 0, .int 0, .null, .int 0, .int 0, .int 0, .long 0]))], [(q8, .inl (cI, 350, .inl (fun _ => 0)))]] rfl ?_
  refine q_aload_n C dX7_init_13 14 0 rfl rfl ?_
  refine q_sipush (v := nI 350) C dX7_init_14 17 rfl (by decide) ?_
  refine q_newa (N := 350) C hcI arc B.1 dX7_init_17 19 rfl (by decide) (by decide) (by decide) (Nat.le_of_ble_eq_true rfl) (Nat.le_of_ble_eq_true rfl) (fun q17 => ?_)
  refine q_putF (k := 0) (j := 0) (f := 2) C hinX7 tyX7 tyX7_ok nmX7 f13 (fun _ h => h) (by decide) rfl rfl B.2.2.2.2.2 rfl (tyX7_ok 2 (by decide)) rfl rfl dX7_init_19 22 rfl rfl rfl (Nat.le_of_ble_eq_true rfl) [[(h0, .inr (6, [.int 0, .ref q8, .ref q17, .null, .int 0, .null, .int 0, .null, .int 0, .int 0, .int 0, .null, .int 0, .int 0, .int 0, .long 0]))], [(q8, .inl (cI, 350, .inl (fun _ => 0)))], [(q17, .inl (cI, 350, .inl (fun _ => 0)))]] rfl ?_
  refine q_aload_n C dX7_init_22 23 0 rfl rfl ?_
  refine q_sipush (v := nI 2100) C dX7_init_23 26 rfl (by decide) ?_
  refine q_newa (N := 2100) C hcI arc B.1 dX7_init_26 28 rfl (by decide) (by decide) (by decide) (Nat.le_of_ble_eq_true rfl) (Nat.le_of_ble_eq_true rfl) (fun q26 => ?_)
  refine q_putF (k := 0) (j := 0) (f := 3) C hinX7 tyX7 tyX7_ok nmX7 f16 (fun _ h => h) (by decide) rfl rfl B.2.2.2.2.2 rfl (tyX7_ok 3 (by decide)) rfl rfl dX7_init_28 31 rfl rfl rfl (Nat.le_of_ble_eq_true rfl) [[(h0, .inr (6, [.int 0, .ref q8, .ref q17, .ref q26, .int 0, .null, .int 0, .null, .int 0, .int 0, .int 0, .null, .int 0, .int 0, .int 0, .long 0]))], [(q8, .inl (cI, 350, .inl (fun _ => 0)))], [(q17, .inl (cI, 350, .inl (fun _ => 0)))], [(q26, .inl (cI, 2100, .inl (fun _ => 0)))]] rfl ?_
  refine q_aload_n C dX7_init_31 32 0 rfl rfl ?_
  refine q_sipush (v := nI 350) C dX7_init_32 35 rfl (by decide) ?_
  refine q_newa (N := 350) C hcI arc B.1 dX7_init_35 37 rfl (by decide) (by decide) (by decide) (Nat.le_of_ble_eq_true rfl) (Nat.le_of_ble_eq_true rfl) (fun q35 => ?_)
  refine q_putF (k := 0) (j := 0) (f := 5) C hinX7 tyX7 tyX7_ok nmX7 f19 (fun _ h => h) (by decide) rfl rfl B.2.2.2.2.2 rfl (tyX7_ok 5 (by decide)) rfl rfl dX7_init_37 40 rfl rfl rfl (Nat.le_of_ble_eq_true rfl) [[(h0, .inr (6, [.int 0, .ref q8, .ref q17, .ref q26, .int 0, .ref q35, .int 0, .null, .int 0, .int 0, .int 0, .null, .int 0, .int 0, .int 0, .long 0]))], [(q8, .inl (cI, 350, .inl (fun _ => 0)))], [(q17, .inl (cI, 350, .inl (fun _ => 0)))], [(q26, .inl (cI, 2100, .inl (fun _ => 0)))], [(q35, .inl (cI, 350, .inl (fun _ => 0)))]] rfl ?_
  refine q_aload_n C dX7_init_40 41 0 rfl rfl ?_
  refine q_bipush (v := nI 60) C dX7_init_41 43 rfl (by decide) ?_
  refine q_newa (N := 60) C hcI arc B.1 dX7_init_43 45 rfl (by decide) (by decide) (by decide) (Nat.le_of_ble_eq_true rfl) (Nat.le_of_ble_eq_true rfl) (fun q43 => ?_)
  refine q_putF (k := 0) (j := 0) (f := 7) C hinX7 tyX7 tyX7_ok nmX7 f22 (fun _ h => h) (by decide) rfl rfl B.2.2.2.2.2 rfl (tyX7_ok 7 (by decide)) rfl rfl dX7_init_45 48 rfl rfl rfl (Nat.le_of_ble_eq_true rfl) [[(h0, .inr (6, [.int 0, .ref q8, .ref q17, .ref q26, .int 0, .ref q35, .int 0, .ref q43, .int 0, .int 0, .int 0, .null, .int 0, .int 0, .int 0, .long 0]))], [(q8, .inl (cI, 350, .inl (fun _ => 0)))], [(q17, .inl (cI, 350, .inl (fun _ => 0)))], [(q26, .inl (cI, 2100, .inl (fun _ => 0)))], [(q35, .inl (cI, 350, .inl (fun _ => 0)))], [(q43, .inl (cI, 60, .inl (fun _ => 0)))]] rfl ?_
  refine q_aload_n C dX7_init_48 49 0 rfl rfl ?_
  refine q_bipush (v := nI 64) C dX7_init_49 51 rfl (by decide) ?_
  refine q_newa (N := 64) C hcI arc B.1 dX7_init_51 53 rfl (by decide) (by decide) (by decide) (Nat.le_of_ble_eq_true rfl) (Nat.le_of_ble_eq_true rfl) (fun q51 => ?_)
  refine q_putF (k := 0) (j := 0) (f := 11) C hinX7 tyX7 tyX7_ok nmX7 f25 (fun _ h => h) (by decide) rfl rfl B.2.2.2.2.2 rfl (tyX7_ok 11 (by decide)) rfl rfl dX7_init_53 56 rfl rfl rfl (Nat.le_of_ble_eq_true rfl) [[(h0, .inr (6, [.int 0, .ref q8, .ref q17, .ref q26, .int 0, .ref q35, .int 0, .ref q43, .int 0, .int 0, .int 0, .ref q51, .int 0, .int 0, .int 0, .long 0]))], [(q8, .inl (cI, 350, .inl (fun _ => 0)))], [(q17, .inl (cI, 350, .inl (fun _ => 0)))], [(q26, .inl (cI, 2100, .inl (fun _ => 0)))], [(q35, .inl (cI, 350, .inl (fun _ => 0)))], [(q43, .inl (cI, 60, .inl (fun _ => 0)))], [(q51, .inl (cI, 64, .inl (fun _ => 0)))]] rfl ?_
  refine q_aload_n C dX7_init_56 57 0 rfl rfl ?_
  refine q_iconst (v := nI 0) C dX7_init_57 58 rfl (by decide) ?_
  refine q_put (k := 0) (j := 0) (f := 0) C hinX7 tyX7 tyX7_ok nmX7 f28 (fun _ h => h) (by decide) rfl rfl (tyX7_ok 0 (by decide)) rfl rfl dX7_init_58 61 rfl rfl rfl (Nat.le_of_ble_eq_true rfl) [[(h0, .inr (6, [.int (nI 0), .ref q8, .ref q17, .ref q26, .int 0, .ref q35, .int 0, .ref q43, .int 0, .int 0, .int 0, .ref q51, .int 0, .int 0, .int 0, .long 0]))], [(q8, .inl (cI, 350, .inl (fun _ => 0)))], [(q17, .inl (cI, 350, .inl (fun _ => 0)))], [(q26, .inl (cI, 2100, .inl (fun _ => 0)))], [(q35, .inl (cI, 350, .inl (fun _ => 0)))], [(q43, .inl (cI, 60, .inl (fun _ => 0)))], [(q51, .inl (cI, 64, .inl (fun _ => 0)))]] rfl ?_
  refine q_aload_n C dX7_init_61 62 0 rfl rfl ?_
  refine q_get (k := 0) (j := 0) (f := 1) C hinX7 f7 (fun _ h => h) (by decide) rfl dX7_init_62 65 rfl rfl rfl rfl ?_
  refine q_iconst (v := nI 0) C dX7_init_65 66 rfl (by decide) ?_
  refine q_bipush (v := nI 60) C dX7_init_66 68 rfl (by decide) ?_
  refine q_iast (k := 1) (j := 0) C dX7_init_68 69 rfl rfl rfl hcI 0 rfl (by omega) (by decide) [[(h0, .inr (6, [.int (nI 0), .ref q8, .ref q17, .ref q26, .int 0, .ref q35, .int 0, .ref q43, .int 0, .int 0, .int 0, .ref q51, .int 0, .int 0, .int 0, .long 0]))], [(q8, .inl (cI, 350, .inl (upd (fun _ => 0) 0 (nI 60))))], [(q17, .inl (cI, 350, .inl (fun _ => 0)))], [(q26, .inl (cI, 2100, .inl (fun _ => 0)))], [(q35, .inl (cI, 350, .inl (fun _ => 0)))], [(q43, .inl (cI, 60, .inl (fun _ => 0)))], [(q51, .inl (cI, 64, .inl (fun _ => 0)))]] rfl ?_
  refine q_aload_n C dX7_init_69 70 0 rfl rfl ?_
  refine q_get (k := 0) (j := 0) (f := 1) C hinX7 f7 (fun _ h => h) (by decide) rfl dX7_init_70 73 rfl rfl rfl rfl ?_
  refine q_iconst (v := nI 1) C dX7_init_73 74 rfl (by decide) ?_
  refine q_iconst (v := nI 1) C dX7_init_74 75 rfl (by decide) ?_
  refine q_iast (k := 1) (j := 0) C dX7_init_75 76 rfl rfl rfl hcI 1 rfl (by omega) (by decide) [[(h0, .inr (6, [.int (nI 0), .ref q8, .ref q17, .ref q26, .int 0, .ref q35, .int 0, .ref q43, .int 0, .int 0, .int 0, .ref q51, .int 0, .int 0, .int 0, .long 0]))], [(q8, .inl (cI, 350, .inl (upd (upd (fun _ => 0) 0 (nI 60)) 1 (nI 1))))], [(q17, .inl (cI, 350, .inl (fun _ => 0)))], [(q26, .inl (cI, 2100, .inl (fun _ => 0)))], [(q35, .inl (cI, 350, .inl (fun _ => 0)))], [(q43, .inl (cI, 60, .inl (fun _ => 0)))], [(q51, .inl (cI, 64, .inl (fun _ => 0)))]] rfl ?_
  refine q_aload_n C dX7_init_76 77 0 rfl rfl ?_
  refine q_get (k := 0) (j := 0) (f := 1) C hinX7 f7 (fun _ h => h) (by decide) rfl dX7_init_77 80 rfl rfl rfl rfl ?_
  refine q_iconst (v := nI 2) C dX7_init_80 81 rfl (by decide) ?_
  refine q_iconst (v := nI 1) C dX7_init_81 82 rfl (by decide) ?_
  refine q_iast (k := 1) (j := 0) C dX7_init_82 83 rfl rfl rfl hcI 2 rfl (by omega) (by decide) [[(h0, .inr (6, [.int (nI 0), .ref q8, .ref q17, .ref q26, .int 0, .ref q35, .int 0, .ref q43, .int 0, .int 0, .int 0, .ref q51, .int 0, .int 0, .int 0, .long 0]))], [(q8, .inl (cI, 350, .inl (upd (upd (upd (fun _ => 0) 0 (nI 60)) 1 (nI 1)) 2 (nI 1))))], [(q17, .inl (cI, 350, .inl (fun _ => 0)))], [(q26, .inl (cI, 2100, .inl (fun _ => 0)))], [(q35, .inl (cI, 350, .inl (fun _ => 0)))], [(q43, .inl (cI, 60, .inl (fun _ => 0)))], [(q51, .inl (cI, 64, .inl (fun _ => 0)))]] rfl ?_
  refine q_aload_n C dX7_init_83 84 0 rfl rfl ?_
  refine q_get (k := 0) (j := 0) (f := 1) C hinX7 f7 (fun _ h => h) (by decide) rfl dX7_init_84 87 rfl rfl rfl rfl ?_
  refine q_iconst (v := nI 3) C dX7_init_87 88 rfl (by decide) ?_
  refine q_iconst (v := -1) C dX7_init_88 89 rfl (by decide) ?_
  refine q_iast (k := 1) (j := 0) C dX7_init_89 90 rfl rfl rfl hcI 3 rfl (by omega) (by decide) [[(h0, .inr (6, [.int (nI 0), .ref q8, .ref q17, .ref q26, .int 0, .ref q35, .int 0, .ref q43, .int 0, .int 0, .int 0, .ref q51, .int 0, .int 0, .int 0, .long 0]))], [(q8, .inl (cI, 350, .inl (upd (upd (upd (upd (fun _ => 0) 0 (nI 60)) 1 (nI 1)) 2 (nI 1)) 3 (-1))))], [(q17, .inl (cI, 350, .inl (fun _ => 0)))], [(q26, .inl (cI, 2100, .inl (fun _ => 0)))], [(q35, .inl (cI, 350, .inl (fun _ => 0)))], [(q43, .inl (cI, 60, .inl (fun _ => 0)))], [(q51, .inl (cI, 64, .inl (fun _ => 0)))]] rfl ?_
  refine q_aload_n C dX7_init_90 91 0 rfl rfl ?_
  refine q_get (k := 0) (j := 0) (f := 1) C hinX7 f7 (fun _ h => h) (by decide) rfl dX7_init_91 94 rfl rfl rfl rfl ?_
  refine q_bipush (v := nI 10) C dX7_init_94 96 rfl (by decide) ?_
  refine q_iconst (v := -1) C dX7_init_96 97 rfl (by decide) ?_
  refine q_iast (k := 1) (j := 0) C dX7_init_97 98 rfl rfl rfl hcI 10 rfl (by omega) (by decide) [[(h0, .inr (6, [.int (nI 0), .ref q8, .ref q17, .ref q26, .int 0, .ref q35, .int 0, .ref q43, .int 0, .int 0, .int 0, .ref q51, .int 0, .int 0, .int 0, .long 0]))], [(q8, .inl (cI, 350, .inl (upd (upd (upd (upd (upd (fun _ => 0) 0 (nI 60)) 1 (nI 1)) 2 (nI 1)) 3 (-1)) 10 (-1))))], [(q17, .inl (cI, 350, .inl (fun _ => 0)))], [(q26, .inl (cI, 2100, .inl (fun _ => 0)))], [(q35, .inl (cI, 350, .inl (fun _ => 0)))], [(q43, .inl (cI, 60, .inl (fun _ => 0)))], [(q51, .inl (cI, 64, .inl (fun _ => 0)))]] rfl ?_
  refine q_aload_n C dX7_init_98 99 0 rfl rfl ?_
  refine q_get (k := 0) (j := 0) (f := 1) C hinX7 f7 (fun _ h => h) (by decide) rfl dX7_init_99 102 rfl rfl rfl rfl ?_
  refine q_bipush (v := nI 11) C dX7_init_102 104 rfl (by decide) ?_
  refine q_iconst (v := -1) C dX7_init_104 105 rfl (by decide) ?_
  refine q_iast (k := 1) (j := 0) C dX7_init_105 106 rfl rfl rfl hcI 11 rfl (by omega) (by decide) [[(h0, .inr (6, [.int (nI 0), .ref q8, .ref q17, .ref q26, .int 0, .ref q35, .int 0, .ref q43, .int 0, .int 0, .int 0, .ref q51, .int 0, .int 0, .int 0, .long 0]))], [(q8, .inl (cI, 350, .inl (upd (upd (upd (upd (upd (upd (fun _ => 0) 0 (nI 60)) 1 (nI 1)) 2 (nI 1)) 3 (-1)) 10 (-1)) 11 (-1))))], [(q17, .inl (cI, 350, .inl (fun _ => 0)))], [(q26, .inl (cI, 2100, .inl (fun _ => 0)))], [(q35, .inl (cI, 350, .inl (fun _ => 0)))], [(q43, .inl (cI, 60, .inl (fun _ => 0)))], [(q51, .inl (cI, 64, .inl (fun _ => 0)))]] rfl ?_
  have hP0 : k_isP cI h0 q8 q17 q26 q35 q43 q51 (fun _ => 0) 0 [(h0, .inr (6, [.int (nI 0), .ref q8, .ref q17, .ref q26, .int 0, .ref q35, .int 0, .ref q43, .int 0, .int 0, .int 0, .ref q51, .int 0, .int 0, .int 0, .long 0]))] := rfl
  have hQ0 : k_isQ cI q8 (k_bi 0 0) 0 [] k_sc0 [(q8, .inl (cI, 350, .inl (upd (upd (upd (upd (upd (upd (fun _ => 0) 0 (nI 60)) 1 (nI 1)) 2 (nI 1)) 3 (-1)) 10 (-1)) 11 (-1))))] := k_0_isQ
  have hZ0 : k_isQ cI q17 (fun _ => []) 0 [] (fun _ => 0) [(q17, .inl (cI, 350, .inl (fun _ => 0)))] := k_z_isQ
  have hV0 : k_isV cI q26 [] [(q26, .inl (cI, 2100, .inl (fun _ => 0)))] := k_0_isV
  have hN0 : k_isQ cI q35 (fun _ => []) 0 [] (fun _ => 0) [(q35, .inl (cI, 350, .inl (fun _ => 0)))] := k_z_isQ
  have hU0 : k_isU cI q43 [] [(q43, .inl (cI, 60, .inl (fun _ => 0)))] := k_0_isU
  have hD0 : k_isD cI q51 [] [] [(q51, .inl (cI, 64, .inl (fun _ => 0)))] := k_0_isD
  refine q_iconst (v := nI 0) C dX7_init_106 107 rfl (by decide) ?_
  refine q_istore_n C dX7_init_107 108 rfl [(1, .int (nI 0)), (0, .ref h0)] (by decide) rfl ?_
  have lp : ∀ (kk : Nat) (j : Nat) (wb : va_W), 12 - j < kk → ∀ (hj : j ≤ 12), ∀ (hwb : k_isQ cI q8 (k_bi j 0) 0 [] k_sc0 wb), q_V p9 l e9 R s9 m9 args below meth c9 D A 3 Q ((((((0 + 1) + 1) + 1) + 1) + 1) + 1) ((((((0 + 350) + 350) + 2100) + 350) + 60) + 64) 108 [(1, .int (nI j)), (0, .ref h0)] [] [[(h0, .inr (6, [.int (nI 0), .ref q8, .ref q17, .ref q26, .int 0, .ref q35, .int 0, .ref q43, .int 0, .int 0, .int 0, .ref q51, .int 0, .int 0, .int 0, .long 0]))], wb, [(q17, .inl (cI, 350, .inl (fun _ => 0)))], [(q26, .inl (cI, 2100, .inl (fun _ => 0)))], [(q35, .inl (cI, 350, .inl (fun _ => 0)))], [(q43, .inl (cI, 60, .inl (fun _ => 0)))], [(q51, .inl (cI, 64, .inl (fun _ => 0)))]] := by
    intro kk
    induction kk with
    | zero => intro j wb hkk; exact absurd hkk (Nat.not_lt_zero _)
    | succ kk ih_lp =>
      intro j wb hkk hj hwb
      refine q_iload_n C dX7_init_108 109 0 rfl rfl ?_
      refine q_bipush (v := nI 12) C dX7_init_109 111 rfl (by decide) ?_
      refine q_icmp_ge C dX7_init_111 114 140 rfl (by decide) (nI_leI (by omega) (by omega)) (fun h111 => ?_) (fun h111 => ?_)
      · obtain rfl : j = 12 := by omega
        exact q_vret C B dX7_init_140 rfl rfl (fun t0 ht0 => ⟨rfl, _, _, _, _, _, _, _, _, _, _, _, _, _, hP0, hwb, hZ0, hV0, hN0, hU0, hD0, rfl⟩)
      · refine q_iconst (v := nI 0) C dX7_init_114 115 rfl (by decide) ?_
        refine q_istore_n C dX7_init_115 116 rfl [(2, .int (nI 0)), (1, .int (nI j)), (0, .ref h0)] (by decide) rfl ?_
        have lp2 : ∀ (kk : Nat) (i : Nat) (wc : va_W), 6 - i < kk → ∀ (hi : i ≤ 6), ∀ (hwc : k_isQ cI q8 (k_bi j i) 0 [] k_sc0 wc), q_V p9 l e9 R s9 m9 args below meth c9 D A 3 Q ((((((0 + 1) + 1) + 1) + 1) + 1) + 1) ((((((0 + 350) + 350) + 2100) + 350) + 60) + 64) 116 [(2, .int (nI i)), (1, .int (nI j)), (0, .ref h0)] [] [[(h0, .inr (6, [.int (nI 0), .ref q8, .ref q17, .ref q26, .int 0, .ref q35, .int 0, .ref q43, .int 0, .int 0, .int 0, .ref q51, .int 0, .int 0, .int 0, .long 0]))], wc, [(q17, .inl (cI, 350, .inl (fun _ => 0)))], [(q26, .inl (cI, 2100, .inl (fun _ => 0)))], [(q35, .inl (cI, 350, .inl (fun _ => 0)))], [(q43, .inl (cI, 60, .inl (fun _ => 0)))], [(q51, .inl (cI, 64, .inl (fun _ => 0)))]] := by
          intro kk
          induction kk with
          | zero => intro i wc hkk; exact absurd hkk (Nat.not_lt_zero _)
          | succ kk ih_lp2 =>
            intro i wc hkk hi hwc
            refine q_iload_n C dX7_init_116 117 0 rfl rfl ?_
            refine q_bipush (v := nI 6) C dX7_init_117 119 rfl (by decide) ?_
            refine q_icmp_ge C dX7_init_119 122 134 rfl (by decide) (nI_leI (by omega) (by omega)) (fun h119 => ?_) (fun h119 => ?_)
            · refine q_iinc (v := nI (j + 1)) C dX7_init_134 137 1 rfl rfl (q_ninc1 (by omega)) [(1, .int (nI (j + 1))), (2, .int (nI i)), (0, .ref h0)] (by decide) rfl ?_
              refine q_goto C dX7_init_137 108 (by decide) ?_
              refine q_sub (L' := [(1, .int (nI (j + 1))), (0, .ref h0)]) [0, 2] rfl ?_
              exact ih_lp (j + 1) wc (by omega) (by omega) (by rw [← k_bi_6, ← show i = 6 by omega]; exact hwc)
            · refine q_aload_n C dX7_init_122 123 2 rfl rfl ?_
              refine q_iload_n C dX7_init_123 124 1 rfl rfl ?_
              refine q_iload_n C dX7_init_124 125 1 rfl rfl ?_
              refine q_callV (k := 0) (ci := 6) (n := 2) (rest := []) (Rr := [[(q17, .inl (cI, 350, .inl (fun _ => 0)))], [(q26, .inl (cI, 2100, .inl (fun _ => 0)))], [(q35, .inl (cI, 350, .inl (fun _ => 0)))], [(q43, .inl (cI, 60, .inl (fun _ => 0)))], [(q51, .inl (cI, 64, .inl (fun _ => 0)))]]) C rfl (k_isP_recv hP0) rfl (c_X7_puts l hZ hI h0 q8 q17 q26 q35 q43 q51 ((fun _ => 0)) 0 ([(h0, .inr (6, [.int (nI 0), .ref q8, .ref q17, .ref q26, .int 0, .ref q35, .int 0, .ref q43, .int 0, .int 0, .int 0, .ref q51, .int 0, .int 0, .int 0, .long 0]))]) hP0 ((k_bi j i)) 0 (([] : List (Nat × Nat))) k_sc0 wc hwc j j (by omega) (by rw [k_bi_len]; omega) (by omega)) gX7_init_X7_puts rfl rfl rfl (by decide +kernel) B.1 ⟨Nat.le_of_ble_eq_true rfl, Nat.le_of_ble_eq_true rfl⟩ rfl rfl (Nat.le_of_ble_eq_true rfl) dX7_init_125 ⟨Nat.le_of_ble_eq_true rfl, Nat.le_of_ble_eq_true rfl⟩ [0, 1] [2, 3, 4, 5, 6] (by decide : ([0, 1] ++ ([2, 3, 4, 5, 6] : List Nat)).Perm (List.range 7)) rfl rfl 128 rfl (fun v0 R0 t0 ht0 hp0 => ?_)
              obtain ⟨rfl, wQ_125, hwQ_125, rfl⟩ := hp0
              refine q_eqs (st' := []) rfl ?_
              refine q_eqR (Rs' := [[(h0, .inr (6, [.int (nI 0), .ref q8, .ref q17, .ref q26, .int 0, .ref q35, .int 0, .ref q43, .int 0, .int 0, .int 0, .ref q51, .int 0, .int 0, .int 0, .long 0]))], wQ_125, [(q17, .inl (cI, 350, .inl (fun _ => 0)))], [(q26, .inl (cI, 2100, .inl (fun _ => 0)))], [(q35, .inl (cI, 350, .inl (fun _ => 0)))], [(q43, .inl (cI, 60, .inl (fun _ => 0)))], [(q51, .inl (cI, 64, .inl (fun _ => 0)))]]) rfl ?_
              refine q_iinc (v := nI (i + 1)) C dX7_init_128 131 0 rfl rfl (q_ninc1 (by omega)) [(2, .int (nI (i + 1))), (1, .int (nI j)), (0, .ref h0)] (by decide) rfl ?_
              refine q_goto C dX7_init_131 116 (by decide) ?_
              refine q_sub (L' := [(2, .int (nI (i + 1))), (1, .int (nI j)), (0, .ref h0)]) [0, 1, 2] rfl ?_
              exact ih_lp2 (i + 1) wQ_125 (by omega) (by omega) (by rw [← k_bi_put]; exact hwQ_125)
        refine q_sub (L' := [(2, .int (nI 0)), (1, .int (nI j)), (0, .ref h0)]) [0, 1, 2] rfl ?_
        exact lp2 _ 0 wb (Nat.lt_succ_self _) (by omega) hwb
  refine q_sub (L' := [(1, .int (nI 0)), (0, .ref h0)]) [0, 1] rfl ?_
  exact lp _ 0 ([(q8, .inl (cI, 350, .inl (upd (upd (upd (upd (upd (upd (fun _ => 0) 0 (nI 60)) 1 (nI 1)) 2 (nI 1)) 3 (-1)) 10 (-1)) 11 (-1))))]) (Nat.lt_succ_self _) (by omega) hQ0
