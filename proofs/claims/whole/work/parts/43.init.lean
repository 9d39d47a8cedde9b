set_option maxHeartbeats 400000 in
set_option maxRecDepth 100000 in
theorem c_X5_init (l : Launch) {D : va_G} {tys : List (ClassId × FieldType)} {Z : (Nat → Prop) → State → Heap → Prop} (hZ : q_St Z) {cI : ClassId} (hI : tys[0]? = some (cI, .int)) (h0 : Nat) (w : va_W) (h : k_i5 cI h0 w) : q_Ct l D tys Z yX5_init wsX5_init ({ frames := 1, cells := 1, slots := 60, locals := 42 } : Room) 1 60 [.ref h0] [w] (fun v0 R0 _ => v0 = none ∧ ∃ w', k_isT cI h0 [] w' ∧ R0 = [w']) := by
  have hcI := hI
  refine q_ct (cc := cX5_init) (maxL := 1) (ret := none) (own := RX5) (by decide) rfl hZ (Nat.le_of_ble_eq_true rfl) rfl ?_
  intro p9 e9 R s9 m9 args below meth c9 A Q C B
  have hts := C.2.2.2.2.1
  have oi1 := hts (.methodLink RX5 3 objectInit) (by decide +kernel)
  have oi2 := hts (.instanceMethod objectInit) (by decide +kernel)
  have oi3 := hts (.code objectInit ⟨#[0xb1]⟩ 1 none) (by decide +kernel)
  have arc := hts (.arrayClass .int) (by decide +kernel)
  have hinX5 : ∀ w ∈ u_ws RX5 TX5 2, w ∈ wsX5_init := by decide +kernel
  have f9 := hts (.fieldLink RX5 9 "SortCases$Text" "codes" "[I") (by decide +kernel)
  have f15 := hts (.fieldLink RX5 15 "SortCases$Text" "length" "I") (by decide +kernel)
  refine q_eqL (L' := [(0, .ref h0)]) rfl ?_
  obtain rfl := h
  refine q_aload_n C dX5_init_0 1 0 rfl rfl ?_
  refine q_objInit C oi1 oi2 oi3 B.1 (Nat.le_of_ble_eq_true rfl) (Nat.le_of_ble_eq_true rfl) dX5_init_1 4 rfl ?_
  refine q_aload_n C dX5_init_4 5 0 rfl rfl ?_
  refine q_bipush (v := nI 60) C dX5_init_5 7 rfl (by decide) ?_
  refine q_newa (N := 60) C hcI arc B.1 dX5_init_7 9 rfl (by decide) (by decide) (by decide) (Nat.le_of_ble_eq_true rfl) (Nat.le_of_ble_eq_true rfl) (fun q7 => ?_)
  refine q_putF (k := 0) (j := 0) (f := 0) C hinX5 tyX5 tyX5_ok nmX5 f9 (fun _ h => h) (by decide) rfl rfl B.2.2.2.2.2 rfl (tyX5_ok 0 (by decide)) rfl rfl dX5_init_9 12 rfl rfl rfl (Nat.le_of_ble_eq_true rfl) [[(h0, .inr (4, [.ref q7, .int 0]))], [(q7, .inl (cI, 60, .inl (fun _ => 0)))]] rfl ?_
  refine q_aload_n C dX5_init_12 13 0 rfl rfl ?_
  refine q_iconst (v := nI 0) C dX5_init_13 14 rfl (by decide) ?_
  refine q_put (k := 0) (j := 0) (f := 1) C hinX5 tyX5 tyX5_ok nmX5 f15 (fun _ h => h) (by decide) rfl rfl (tyX5_ok 1 (by decide)) rfl rfl dX5_init_14 17 rfl rfl rfl (Nat.le_of_ble_eq_true rfl) [[(h0, .inr (4, [.ref q7, .int (nI 0)]))], [(q7, .inl (cI, 60, .inl (fun _ => 0)))]] rfl ?_
  refine q_resp (Rs' := [[(h0, .inr (4, [.ref q7, .int (nI 0)])), (q7, .inl (cI, 60, .inl (fun _ => 0)))]]) rfl ?_
  exact q_vret C B dX5_init_17 rfl rfl (fun t0 ht0 => ⟨rfl, _, ⟨k_Tok_nil, _, _, fun i hi => absurd hi (Nat.not_lt_zero i), rfl⟩, rfl⟩)

set_option maxHeartbeats 400000 in
set_option maxRecDepth 100000 in
theorem c_X2_init (l : Launch) {D : va_G} {tys : List (ClassId × FieldType)} {Z : (Nat → Prop) → State → Heap → Prop} (hZ : q_St Z) {cI : ClassId} (hI : tys[0]? = some (cI, .int)) (h0 : Nat) (w : va_W) (h : k_i2 cI h0 w) : q_Ct l D tys Z yX2_init wsX2_init ({ frames := 1, cells := 2, slots := 144, locals := 42 } : Room) 2 144 [.ref h0] [w] (fun v0 R0 _ => v0 = none ∧ ∃ w', k_isL cI h0 [] w' ∧ R0 = [w']) := by
  have hcI := hI
  refine q_ct (cc := cX2_init) (maxL := 1) (ret := none) (own := RX2) (by decide) rfl hZ (Nat.le_of_ble_eq_true rfl) rfl ?_
  intro p9 e9 R s9 m9 args below meth c9 A Q C B
  have hts := C.2.2.2.2.1
  have oi1 := hts (.methodLink RX2 3 objectInit) (by decide +kernel)
  have oi2 := hts (.instanceMethod objectInit) (by decide +kernel)
  have oi3 := hts (.code objectInit ⟨#[0xb1]⟩ 1 none) (by decide +kernel)
  have arc := hts (.arrayClass .int) (by decide +kernel)
  have hinX2 : ∀ w ∈ u_ws RX2 TX2 3, w ∈ wsX2_init := by decide +kernel
  have f9 := hts (.fieldLink RX2 9 "SortCases$Line" "sorts" "[I") (by decide +kernel)
  have f15 := hts (.fieldLink RX2 15 "SortCases$Line" "letters" "[I") (by decide +kernel)
  have f18 := hts (.fieldLink RX2 18 "SortCases$Line" "length" "I") (by decide +kernel)
  refine q_eqL (L' := [(0, .ref h0)]) rfl ?_
  obtain rfl := h
  refine q_aload_n C dX2_init_0 1 0 rfl rfl ?_
  refine q_objInit C oi1 oi2 oi3 B.1 (Nat.le_of_ble_eq_true rfl) (Nat.le_of_ble_eq_true rfl) dX2_init_1 4 rfl ?_
  refine q_aload_n C dX2_init_4 5 0 rfl rfl ?_
  refine q_bipush (v := nI 72) C dX2_init_5 7 rfl (by decide) ?_
  refine q_newa (N := 72) C hcI arc B.1 dX2_init_7 9 rfl (by decide) (by decide) (by decide) (Nat.le_of_ble_eq_true rfl) (Nat.le_of_ble_eq_true rfl) (fun q7 => ?_)
  refine q_putF (k := 0) (j := 0) (f := 0) C hinX2 tyX2 tyX2_ok nmX2 f9 (fun _ h => h) (by decide) rfl rfl B.2.2.2.2.2 rfl (tyX2_ok 0 (by decide)) rfl rfl dX2_init_9 12 rfl rfl rfl (Nat.le_of_ble_eq_true rfl) [[(h0, .inr (2, [.ref q7, .null, .int 0]))], [(q7, .inl (cI, 72, .inl (fun _ => 0)))]] rfl ?_
  refine q_aload_n C dX2_init_12 13 0 rfl rfl ?_
  refine q_bipush (v := nI 72) C dX2_init_13 15 rfl (by decide) ?_
  refine q_newa (N := 72) C hcI arc B.1 dX2_init_15 17 rfl (by decide) (by decide) (by decide) (Nat.le_of_ble_eq_true rfl) (Nat.le_of_ble_eq_true rfl) (fun q15 => ?_)
  refine q_putF (k := 0) (j := 0) (f := 1) C hinX2 tyX2 tyX2_ok nmX2 f15 (fun _ h => h) (by decide) rfl rfl B.2.2.2.2.2 rfl (tyX2_ok 1 (by decide)) rfl rfl dX2_init_17 20 rfl rfl rfl (Nat.le_of_ble_eq_true rfl) [[(h0, .inr (2, [.ref q7, .ref q15, .int 0]))], [(q7, .inl (cI, 72, .inl (fun _ => 0)))], [(q15, .inl (cI, 72, .inl (fun _ => 0)))]] rfl ?_
  refine q_aload_n C dX2_init_20 21 0 rfl rfl ?_
  refine q_iconst (v := nI 0) C dX2_init_21 22 rfl (by decide) ?_
  refine q_put (k := 0) (j := 0) (f := 2) C hinX2 tyX2 tyX2_ok nmX2 f18 (fun _ h => h) (by decide) rfl rfl (tyX2_ok 2 (by decide)) rfl rfl dX2_init_22 25 rfl rfl rfl (Nat.le_of_ble_eq_true rfl) [[(h0, .inr (2, [.ref q7, .ref q15, .int (nI 0)]))], [(q7, .inl (cI, 72, .inl (fun _ => 0)))], [(q15, .inl (cI, 72, .inl (fun _ => 0)))]] rfl ?_
  refine q_resp (Rs' := [[(h0, .inr (2, [.ref q7, .ref q15, .int (nI 0)])), (q7, .inl (cI, 72, .inl (fun _ => 0))), (q15, .inl (cI, 72, .inl (fun _ => 0)))]]) rfl ?_
  exact q_vret C B dX2_init_25 rfl rfl (fun t0 ht0 => ⟨rfl, _, ⟨k_Lok_nil, _, _, _, _, fun i hi => absurd hi (Nat.not_lt_zero i), rfl⟩, rfl⟩)
