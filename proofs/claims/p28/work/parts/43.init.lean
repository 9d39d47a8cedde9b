set_option maxHeartbeats 400000 in
set_option maxRecDepth 100000 in
theorem c_X5_init (l : Launch) {D : va_G} {tys : List (ClassId × FieldType)} {Z : (Nat → Prop) → State → Heap → Prop} (hZ : q_St Z) {cI : ClassId} (hI : tys[0]? = some (cI, .int)) (h0 : Nat) (w : va_W) (h : k_i5 cI h0 w) : q_Ct l D tys Z yX5_init wsX5_init ({ frames := 1, cells := 1, slots := 60, locals := 42 } : Room) 1 60 [.ref h0] [w] (fun v0 R0 _ => v0 = none ∧ ∃ w', k_isT cI h0 [] w' ∧ R0 = [w']) := by
  have hcI := hI
  refine q_ct (cc := cX5_init) (maxL := 1) (ret := none) (own := RX5) (by decide) rfl hZ (Nat.le_of_ble_eq_true rfl) rfl ?_
  intro p9 e9 R s9 m9 args below meth c9 A Q C B
  have hts := C.2.2.2.2.1
  have oi1 := hts (.methodLink RX5 3 objectInit) (by decide +kernel)
  have oi2 := hts (.instanceMethod objectInit) (by decide +kernel)
  have oi3 := hts (.code objectInit ⟨#[0xb1]⟩ 1 none) (by decide +kernel)
  have arc := hts (.arrayClass .int) (by decide +kernel)
  have hinX5 : ∀ w ∈ u_ws RX5 TX5 2, w ∈ wsX5_init := by decide +kernel
  have f9 := hts (.fieldLink RX5 9 "SortCases$Text" "codes" "[I") (by decide +kernel)
  have f15 := hts (.fieldLink RX5 15 "SortCases$Text" "length" "I") (by decide +kernel)
  refine q_eqL (L' := [(0, .ref h0)]) rfl ?_
  obtain rfl := h
  refine q_aload_n C dX5_init_0 1 0 rfl rfl ?_
  refine q_objInit C oi1 oi2 oi3 B.1 (Nat.le_of_ble_eq_true rfl) (Nat.le_of_ble_eq_true rfl) dX5_init_1 4 rfl ?_
  refine q_aload_n C dX5_init_4 5 0 rfl rfl ?_
  refine q_bipush (v := nI 60) C dX5_init_5 7 rfl (by decide) ?_
  refine q_newa (N := 60) C hcI arc B.1 dX5_init_7 9 rfl (by decide) (by decide) (by decide) (Nat.le_of_ble_eq_true rfl) (Nat.le_of_ble_eq_true rfl) (fun q7 => ?_)
  refine q_putF (k := 0) (j := 0) (f := 0) C hinX5 tyX5 tyX5_ok nmX5 f9 (fun _ h => h) (by decide) rfl rfl B.2.2.2.2.2 rfl (tyX5_ok 0 (by decide)) rfl rfl dX5_init_9 12 rfl rfl rfl (Nat.le_of_ble_eq_true rfl) [[(h0, .inr (4, [.ref q7, .int 0]))], [(q7, .inl (cI, 60, .inl (fun _ => 0)))]] rfl ?_
  refine q_aload_n C dX5_init_12 13 0 rfl rfl ?_
  refine q_iconst (v := nI 0) C dX5_init_13 14 rfl (by decide) ?_
  refine q_put (k := 0) (j := 0) (f := 1) C hinX5 tyX5 tyX5_ok nmX5 f15 (fun _ h => h) (by decide) rfl rfl (tyX5_ok 1 (by decide)) rfl rfl dX5_init_14 17 rfl rfl rfl (Nat.le_of_ble_eq_true rfl) [[(h0, .inr (4, [.ref q7, .int (nI 0)]))], [(q7, .inl (cI, 60, .inl (fun _ => 0)))]] rfl ?_
  refine q_resp (Rs' := [[(h0, .inr (4, [.ref q7, .int (nI 0)])), (q7, .inl (cI, 60, .inl (fun _ => 0)))]]) rfl ?_
  exact q_vret C B dX5_init_17 rfl rfl (fun t0 ht0 => ⟨rfl, _, ⟨k_Tok_nil, _, _, fun i hi => absurd hi (Nat.not_lt_zero i), rfl⟩, rfl⟩)

set_option maxHeartbeats 400000 in
set_option maxRecDepth 100000 in
theorem c_X2_init (l : Launch) {D : va_G} {tys : List (ClassId × FieldType)} {Z : (Nat → Prop) → State → Heap → Prop} (hZ : q_St Z) {cI : ClassId} (hI : tys[0]? = some (cI, .int)) (h0 : Nat) (w : va_W) (h : k_i2 cI h0 w) : q_Ct l D tys Z yX2_init wsX2_init ({ frames := 1, cells := 2, slots := 144, locals := 42 } : Room) 2 144 [.ref h0] [w] (fun v0 R0 _ => v0 = none ∧ ∃ w', k_isL cI h0 [] w' ∧ R0 = [w']) := by
  have hcI := hI
  refine q_ct (cc := cX2_init) (maxL := 1) (ret := none) (own := RX2) (by decide) rfl hZ (Nat.le_of_ble_eq_true rfl) rfl ?_
  intro p9 e9 R s9 m9 args below meth c9 A Q C B
  have hts := C.2.2.2.2.1
  have oi1 := hts (.methodLink RX2 3 objectInit) (by decide +kernel)
  have oi2 := hts (.instanceMethod objectInit) (by decide +kernel)
  have oi3 := hts (.code objectInit ⟨#[0xb1]⟩ 1 none) (by decide +kernel)
  have arc := hts (.arrayClass .int) (by decide +kernel)
  have hinX2 : ∀ w ∈ u_ws RX2 TX2 3, w ∈ wsX2_init := by decide +kernel
  have f9 := hts (.fieldLink RX2 9 "SortCases$Line" "sorts" "[I") (by decide +kernel)
  have f15 := hts (.fieldLink RX2 15 "SortCases$Line" "letters" "[I") (by decide +kernel)
  have f18 := hts (.fieldLink RX2 18 "SortCases$Line" "length" "I") (by decide +kernel)
  refine q_eqL (L' := [(0, .ref h0)]) rfl ?_
  obtain rfl := h
  refine q_aload_n C dX2_init_0 1 0 rfl rfl ?_
  refine q_objInit C oi1 oi2 oi3 B.1 (Nat.le_of_ble_eq_true rfl) (Nat.le_of_ble_eq_true rfl) dX2_init_1 4 rfl ?_
  refine q_aload_n C dX2_init_4 5 0 rfl rfl ?_
  refine q_bipush (v := nI 72) C dX2_init_5 7 rfl (by decide) ?_
  refine q_newa (N := 72) C hcI arc B.1 dX2_init_7 9 rfl (by decide) (by decide) (by decide) (Nat.le_of_ble_eq_true rfl) (Nat.le_of_ble_eq_true rfl) (fun q7 => ?_)
  refine q_putF (k := 0) (j := 0) (f := 0) C hinX2 tyX2 tyX2_ok nmX2 f9 (fun _ h => h) (by decide) rfl rfl B.2.2.2.2.2 rfl (tyX2_ok 0 (by decide)) rfl rfl dX2_init_9 12 rfl rfl rfl (Nat.le_of_ble_eq_true rfl) [[(h0, .inr (2, [.ref q7, .null, .int 0]))], [(q7, .inl (cI, 72, .inl (fun _ => 0)))]] rfl ?_
  refine q_aload_n C dX2_init_12 13 0 rfl rfl ?_
  refine q_bipush (v := nI 72) C dX2_init_13 15 rfl (by decide) ?_
  refine q_newa (N := 72) C hcI arc B.1 dX2_init_15 17 rfl (by decide) (by decide) (by decide) (Nat.le_of_ble_eq_true rfl) (Nat.le_of_ble_eq_true rfl) (fun q15 => ?_)
  refine q_putF (k := 0) (j := 0) (f := 1) C hinX2 tyX2 tyX2_ok nmX2 f15 (fun _ h => h) (by decide) rfl rfl B.2.2.2.2.2 rfl (tyX2_ok 1 (by decide)) rfl rfl dX2_init_17 20 rfl rfl rfl (Nat.le_of_ble_eq_true rfl) [[(h0, .inr (2, [.ref q7, .ref q15, .int 0]))], [(q7, .inl (cI, 72, .inl (fun _ => 0)))], [(q15, .inl (cI, 72, .inl (fun _ => 0)))]] rfl ?_
  refine q_aload_n C dX2_init_20 21 0 rfl rfl ?_
  refine q_iconst (v := nI 0) C dX2_init_21 22 rfl (by decide) ?_
  refine q_put (k := 0) (j := 0) (f := 2) C hinX2 tyX2 tyX2_ok nmX2 f18 (fun _ h => h) (by decide) rfl rfl (tyX2_ok 2 (by decide)) rfl rfl dX2_init_22 25 rfl rfl rfl (Nat.le_of_ble_eq_true rfl) [[(h0, .inr (2, [.ref q7, .ref q15, .int (nI 0)]))], [(q7, .inl (cI, 72, .inl (fun _ => 0)))], [(q15, .inl (cI, 72, .inl (fun _ => 0)))]] rfl ?_
  refine q_resp (Rs' := [[(h0, .inr (2, [.ref q7, .ref q15, .int (nI 0)])), (q7, .inl (cI, 72, .inl (fun _ => 0))), (q15, .inl (cI, 72, .inl (fun _ => 0)))]]) rfl ?_
  exact q_vret C B dX2_init_25 rfl rfl (fun t0 ht0 => ⟨rfl, _, ⟨k_Lok_nil, _, _, _, _, fun i hi => absurd hi (Nat.not_lt_zero i), rfl⟩, rfl⟩)

set_option maxHeartbeats 400000 in
set_option maxRecDepth 100000 in
theorem c_X0_init (l : Launch) {D : va_G} {tys : List (ClassId × FieldType)} {Z : (Nat → Prop) → State → Heap → Prop} (hZ : q_St Z) {cI : ClassId} (hI : tys[0]? = some (cI, .int)) (h0 : Nat) (w : va_W) (h : k_i0 cI h0 w) : q_Ct l D tys Z yX0_init wsX0_init ({ frames := 2, cells := 2, slots := 252, locals := 72 } : Room) 2 252 [.ref h0] [w] (fun v0 R0 _ => v0 = none ∧ ∃ w', k_isB cI h0 (k_bi 12 0) 0 w' ∧ R0 = [w']) := by
  have hcI := hI
  refine q_ct (cc := cX0_init) (maxL := 3) (ret := none) (own := RX0) (by decide) rfl hZ (Nat.le_of_ble_eq_true rfl) rfl ?_
  intro p9 e9 R s9 m9 args below meth c9 A Q C B
  have hts := C.2.2.2.2.1
  have oi1 := hts (.methodLink RX0 3 objectInit) (by decide +kernel)
  have oi2 := hts (.instanceMethod objectInit) (by decide +kernel)
  have oi3 := hts (.code objectInit ⟨#[0xb1]⟩ 1 none) (by decide +kernel)
  have arc := hts (.arrayClass .int) (by decide +kernel)
  have hinX0 : ∀ w ∈ u_ws RX0 TX0 3, w ∈ wsX0_init := by decide +kernel
  have f9 := hts (.fieldLink RX0 9 "SortCases$Boxes" "sorts" "[I") (by decide +kernel)
  have f15 := hts (.fieldLink RX0 15 "SortCases$Boxes" "heights" "[I") (by decide +kernel)
  have f18 := hts (.fieldLink RX0 18 "SortCases$Boxes" "sortedBox" "I") (by decide +kernel)
  refine q_eqL (L' := [(0, .ref h0)]) rfl ?_
  obtain rfl := h
  refine q_aload_n C dX0_init_0 1 0 rfl rfl ?_
  refine q_objInit C oi1 oi2 oi3 B.1 (Nat.le_of_ble_eq_true rfl) (Nat.le_of_ble_eq_true rfl) dX0_init_1 4 rfl ?_
  refine q_aload_n C dX0_init_4 5 0 rfl rfl ?_
  refine q_sipush (v := nI 240) C dX0_init_5 8 rfl (by decide) ?_
  refine q_newa (N := 240) C hcI arc B.1 dX0_init_8 10 rfl (by decide) (by decide) (by decide) (Nat.le_of_ble_eq_true rfl) (Nat.le_of_ble_eq_true rfl) (fun q8 => ?_)
  refine q_putF (k := 0) (j := 0) (f := 0) C hinX0 tyX0 tyX0_ok nmX0 f9 (fun _ h => h) (by decide) rfl rfl B.2.2.2.2.2 rfl (tyX0_ok 0 (by decide)) rfl rfl dX0_init_10 13 rfl rfl rfl (Nat.le_of_ble_eq_true rfl) [[(h0, .inr (0, [.ref q8, .null, .int 0]))], [(q8, .inl (cI, 240, .inl (fun _ => 0)))]] rfl ?_
  refine q_aload_n C dX0_init_13 14 0 rfl rfl ?_
  refine q_bipush (v := nI 12) C dX0_init_14 16 rfl (by decide) ?_
  refine q_newa (N := 12) C hcI arc B.1 dX0_init_16 18 rfl (by decide) (by decide) (by decide) (Nat.le_of_ble_eq_true rfl) (Nat.le_of_ble_eq_true rfl) (fun q16 => ?_)
  refine q_putF (k := 0) (j := 0) (f := 1) C hinX0 tyX0 tyX0_ok nmX0 f15 (fun _ h => h) (by decide) rfl rfl B.2.2.2.2.2 rfl (tyX0_ok 1 (by decide)) rfl rfl dX0_init_18 21 rfl rfl rfl (Nat.le_of_ble_eq_true rfl) [[(h0, .inr (0, [.ref q8, .ref q16, .int 0]))], [(q8, .inl (cI, 240, .inl (fun _ => 0)))], [(q16, .inl (cI, 12, .inl (fun _ => 0)))]] rfl ?_
  refine q_aload_n C dX0_init_21 22 0 rfl rfl ?_
  refine q_iconst (v := nI 0) C dX0_init_22 23 rfl (by decide) ?_
  refine q_put (k := 0) (j := 0) (f := 2) C hinX0 tyX0 tyX0_ok nmX0 f18 (fun _ h => h) (by decide) rfl rfl (tyX0_ok 2 (by decide)) rfl rfl dX0_init_23 26 rfl rfl rfl (Nat.le_of_ble_eq_true rfl) [[(h0, .inr (0, [.ref q8, .ref q16, .int (nI 0)]))], [(q8, .inl (cI, 240, .inl (fun _ => 0)))], [(q16, .inl (cI, 12, .inl (fun _ => 0)))]] rfl ?_
  refine q_resp (Rs' := [[(h0, .inr (0, [.ref q8, .ref q16, .int (nI 0)])), (q8, .inl (cI, 240, .inl (fun _ => 0))), (q16, .inl (cI, 12, .inl (fun _ => 0)))]]) rfl ?_
  have hB0 : k_isB cI h0 (k_bi 0 0) 0 [(h0, .inr (0, [.ref q8, .ref q16, .int (nI 0)])), (q8, .inl (cI, 240, .inl (fun _ => 0))), (q16, .inl (cI, 12, .inl (fun _ => 0)))] := k_bi_isB
  refine q_iconst (v := nI 0) C dX0_init_26 27 rfl (by decide) ?_
  refine q_istore_n C dX0_init_27 28 rfl [(1, .int (nI 0)), (0, .ref h0)] (by decide) rfl ?_
  have lp : ∀ (kk : Nat) (j : Nat) (wb : va_W), 12 - j < kk → ∀ (hj : j ≤ 12), ∀ (hwb : k_isB cI h0 (k_bi j 0) 0 wb), q_V p9 l e9 R s9 m9 args below meth c9 D A 3 Q ((0 + 1) + 1) ((0 + 240) + 12) 28 [(1, .int (nI j)), (0, .ref h0)] [] [wb] := by
    intro kk
    induction kk with
    | zero => intro j wb hkk; exact absurd hkk (Nat.not_lt_zero _)
    | succ kk ih_lp =>
      intro j wb hkk hj hwb
      refine q_iload_n C dX0_init_28 29 0 rfl rfl ?_
      refine q_bipush (v := nI 12) C dX0_init_29 31 rfl (by decide) ?_
      refine q_icmp_ge C dX0_init_31 34 60 rfl (by decide) (nI_leI (by omega) (by omega)) (fun h31 => ?_) (fun h31 => ?_)
      · obtain rfl : j = 12 := by omega
        exact q_vret C B dX0_init_60 rfl rfl (fun t0 ht0 => ⟨rfl, _, hwb, rfl⟩)
      · refine q_iconst (v := nI 0) C dX0_init_34 35 rfl (by decide) ?_
        refine q_istore_n C dX0_init_35 36 rfl [(2, .int (nI 0)), (1, .int (nI j)), (0, .ref h0)] (by decide) rfl ?_
        have lp2 : ∀ (kk : Nat) (i : Nat) (wc : va_W), 6 - i < kk → ∀ (hi : i ≤ 6), ∀ (hwc : k_isB cI h0 (k_bi j i) 0 wc), q_V p9 l e9 R s9 m9 args below meth c9 D A 3 Q ((0 + 1) + 1) ((0 + 240) + 12) 36 [(2, .int (nI i)), (1, .int (nI j)), (0, .ref h0)] [] [wc] := by
          intro kk
          induction kk with
          | zero => intro i wc hkk; exact absurd hkk (Nat.not_lt_zero _)
          | succ kk ih_lp2 =>
            intro i wc hkk hi hwc
            refine q_iload_n C dX0_init_36 37 0 rfl rfl ?_
            refine q_bipush (v := nI 6) C dX0_init_37 39 rfl (by decide) ?_
            refine q_icmp_ge C dX0_init_39 42 54 rfl (by decide) (nI_leI (by omega) (by omega)) (fun h39 => ?_) (fun h39 => ?_)
            · refine q_iinc (v := nI (j + 1)) C dX0_init_54 57 1 rfl rfl (q_ninc1 (by omega)) [(1, .int (nI (j + 1))), (2, .int (nI i)), (0, .ref h0)] (by decide) rfl ?_
              refine q_goto C dX0_init_57 28 (by decide) ?_
              refine q_sub (L' := [(1, .int (nI (j + 1))), (0, .ref h0)]) [0, 2] rfl ?_
              exact ih_lp (j + 1) wc (by omega) (by omega) (by rw [← k_bi_6, ← show i = 6 by omega]; exact hwc)
            · refine q_aload_n C dX0_init_42 43 2 rfl rfl ?_
              refine q_iload_n C dX0_init_43 44 1 rfl rfl ?_
              refine q_iload_n C dX0_init_44 45 1 rfl rfl ?_
              refine q_callV (k := 0) (ci := 0) (n := 2) (rest := []) (Rr := []) C rfl (k_isB_recv hwc) rfl (c_X0_put l hZ hI h0 ((k_bi j i)) 0 wc hwc j j (by omega) (by rw [k_bi_len]; omega) (by omega)) gX0_init_X0_put rfl rfl rfl (by decide +kernel) B.1 ⟨Nat.le_of_ble_eq_true rfl, Nat.le_of_ble_eq_true rfl⟩ rfl rfl (Nat.le_of_ble_eq_true rfl) dX0_init_45 ⟨Nat.le_of_ble_eq_true rfl, Nat.le_of_ble_eq_true rfl⟩ [0] [] (by decide : ([0] ++ ([] : List Nat)).Perm (List.range 1)) rfl rfl 48 rfl (fun v0 R0 t0 ht0 hp0 => ?_)
              obtain ⟨rfl, w_45, hw_45, rfl⟩ := hp0
              refine q_eqs (st' := []) rfl ?_
              refine q_eqR (Rs' := [w_45]) rfl ?_
              refine q_iinc (v := nI (i + 1)) C dX0_init_48 51 0 rfl rfl (q_ninc1 (by omega)) [(2, .int (nI (i + 1))), (1, .int (nI j)), (0, .ref h0)] (by decide) rfl ?_
              refine q_goto C dX0_init_51 36 (by decide) ?_
              refine q_sub (L' := [(2, .int (nI (i + 1))), (1, .int (nI j)), (0, .ref h0)]) [0, 1, 2] rfl ?_
              exact ih_lp2 (i + 1) w_45 (by omega) (by omega) (by rw [← k_bi_put]; exact hw_45)
        refine q_sub (L' := [(2, .int (nI 0)), (1, .int (nI j)), (0, .ref h0)]) [0, 1, 2] rfl ?_
        exact lp2 _ 0 wb (Nat.lt_succ_self _) (by omega) hwb
  refine q_sub (L' := [(1, .int (nI 0)), (0, .ref h0)]) [0, 1] rfl ?_
  exact lp _ 0 ([(h0, .inr (0, [.ref q8, .ref q16, .int (nI 0)])), (q8, .inl (cI, 240, .inl (fun _ => 0))), (q16, .inl (cI, 12, .inl (fun _ => 0)))]) (Nat.lt_succ_self _) (by omega) hB0

