set_option maxHeartbeats 400000 in
set_option maxRecDepth 100000 in
theorem c_X4_init_s (l : Launch) {D : va_G} {tys : List (ClassId × FieldType)} {Z : (Nat → Prop) → State → Heap → Prop} (hZ : q_St Z) {cI : ClassId} (hI : tys[0]? = some (cI, .int)) (hN : q_Ns Z) (h0 : Nat) (w : va_W) (h : k_i4 cI h0 w) : q_Ct l D tys Z yX4_init wsX4_init ({ frames := 3, cells := 7, slots := 405, locals := 102 } : Room) 7 405 [.ref h0] [w] (fun v0 R0 _ => v0 = none ∧ ∃ w', k_isS cI h0 k_S0 w' ∧ R0 = [w']) := by
  have hcI := hI
  refine q_ct (cc := cX4_init) (maxL := 1) (ret := none) (own := RX4) (by decide) rfl hZ (Nat.le_of_ble_eq_true rfl) rfl ?_
  intro p9 e9 R s9 m9 args below meth c9 A Q C B
  have hts := C.2.2.2.2.1
  have oi1 := hts (.methodLink RX4 3 objectInit) (by decide +kernel)
  have oi2 := hts (.instanceMethod objectInit) (by decide +kernel)
  have oi3 := hts (.code objectInit ⟨#[0xb1]⟩ 1 none) (by decide +kernel)
  have hinX0 : ∀ w ∈ u_ws RX0 TX0 3, w ∈ wsX4_init := by decide +kernel
  have cl9 := hts (.classLink RX4 9 RX0) (by decide +kernel)
  have instX0 := hts (.instantiable RX0 3) (by decide +kernel)
  have iniX0 := hts (.initialized RX0) (by decide +kernel)
  have mlk_X0_init := hts (.methodLink RX4 11 yX0_init) (by decide +kernel)
  have ins_X0_init := hts (.instanceMethod yX0_init) (by decide +kernel)
  have hinX4 : ∀ w ∈ u_ws RX4 TX4 11, w ∈ wsX4_init := by decide +kernel
  have f12 := hts (.fieldLink RX4 12 "SortCases$State" "boxes" "LSortCases$Boxes;") (by decide +kernel)
  have hinX2 : ∀ w ∈ u_ws RX2 TX2 3, w ∈ wsX4_init := by decide +kernel
  have cl18 := hts (.classLink RX4 18 RX2) (by decide +kernel)
  have instX2 := hts (.instantiable RX2 3) (by decide +kernel)
  have iniX2 := hts (.initialized RX2) (by decide +kernel)
  have nst_X2_init := q_nst hN C (by decide +kernel : Cond.methodLinkNest "SortCases$State" 20 yX2_init "SortCases" ∈ q_nest)
  have ins_X2_init := hts (.instanceMethod yX2_init) (by decide +kernel)
  have f21 := hts (.fieldLink RX4 21 "SortCases$State" "line" "LSortCases$Line;") (by decide +kernel)
  have arc := hts (.arrayClass .int) (by decide +kernel)
  have f25 := hts (.fieldLink RX4 25 "SortCases$State" "settings" "[I") (by decide +kernel)
  have f29 := hts (.fieldLink RX4 29 "SortCases$State" "hand" "I") (by decide +kernel)
  have f33 := hts (.fieldLink RX4 33 "SortCases$State" "lettersSet" "I") (by decide +kernel)
  have f36 := hts (.fieldLink RX4 36 "SortCases$State" "typesMoved" "I") (by decide +kernel)
  have f39 := hts (.fieldLink RX4 39 "SortCases$State" "beatsPassed" "I") (by decide +kernel)
  have f42 := hts (.fieldLink RX4 42 "SortCases$State" "corrections" "I") (by decide +kernel)
  have f45 := hts (.fieldLink RX4 45 "SortCases$State" "linesReturned" "I") (by decide +kernel)
  have f48 := hts (.fieldLink RX4 48 "SortCases$State" "stopPart" "I") (by decide +kernel)
  have f51 := hts (.fieldLink RX4 51 "SortCases$State" "stopReason" "I") (by decide +kernel)
  refine q_eqL (L' := [(0, .ref h0)]) rfl ?_
  obtain rfl := h
  refine q_aload_n C dX4_init_0 1 0 rfl rfl ?_
  refine q_objInit C oi1 oi2 oi3 B.1 (Nat.le_of_ble_eq_true rfl) (Nat.le_of_ble_eq_true rfl) dX4_init_1 4 rfl ?_
  refine q_aload_n C dX4_init_4 5 0 rfl rfl ?_
  refine q_new (ci := 0) (fs := [.null, .null, .int 0]) C hinX0 tyX0 tyX0_ok cl9 instX0 iniX0 rfl (by intro j hj; match j, hj with | 0, _ => rfl | 1, _ => rfl | 2, _ => rfl) B.1 (Nat.le_of_ble_eq_true rfl) (Nat.le_of_ble_eq_true rfl) dX4_init_5 8 rfl (fun q5 => ?_)
  have hn5 : k_i0 cI q5 [(q5, .inr (0, [.null, .null, .int 0]))] := rfl
  refine q_dup C dX4_init_8 9 rfl rfl ?_
  refine q_callI (n := 0) (rest := [.ref q5, .ref h0]) (Rr := [[(h0, .inr (3, [.null, .null, .null, .int 0, .int 0, .int 0, .int 0, .int 0, .int 0, .int 0, .int 0]))]]) C (c_X0_init l hZ hI q5 ([(q5, .inr (0, [.null, .null, .int 0]))]) hn5) gX4_init_X0_init rfl rfl rfl iniX0 mlk_X0_init (ins_X0_init) rfl (by decide +kernel) B.1 ⟨Nat.le_of_ble_eq_true rfl, Nat.le_of_ble_eq_true rfl⟩ rfl rfl (Nat.le_of_ble_eq_true rfl) dX4_init_9 ⟨(Nat.le_of_ble_eq_true rfl), (Nat.le_of_ble_eq_true rfl)⟩ [1] [0] (by decide : ([1] ++ ([0] : List Nat)).Perm (List.range 2)) rfl rfl 12 rfl (fun v0 R0 t0 ht0 hp0 => ?_)
  obtain ⟨rfl, wn9, hwn9, rfl⟩ := hp0
  refine q_eqs (st' := [.ref q5, .ref h0]) rfl ?_
  refine q_reord [1, 0] (by decide : ([1, 0] : List Nat).Perm (List.range 2)) (Rs' := [[(h0, .inr (3, [.null, .null, .null, .int 0, .int 0, .int 0, .int 0, .int 0, .int 0, .int 0, .int 0]))], wn9]) rfl rfl ?_
  refine q_putF (k := 0) (j := 0) (f := 0) C hinX4 tyX4 tyX4_ok nmX4 f12 (fun _ h => h) (by decide) rfl rfl B.2.2.2.2.2 rfl (tyX4_ok 0 (by decide)) rfl rfl dX4_init_12 15 rfl rfl rfl (Nat.le_of_ble_eq_true rfl) [[(h0, .inr (3, [.ref q5, .null, .null, .int 0, .int 0, .int 0, .int 0, .int 0, .int 0, .int 0, .int 0]))], wn9] rfl ?_
  refine q_aload_n C dX4_init_15 16 0 rfl rfl ?_
  refine q_new (ci := 2) (fs := [.null, .null, .int 0]) C hinX2 tyX2 tyX2_ok cl18 instX2 iniX2 rfl (by intro j hj; match j, hj with | 0, _ => rfl | 1, _ => rfl | 2, _ => rfl) B.1 (Nat.le_of_ble_eq_true rfl) (Nat.le_of_ble_eq_true rfl) dX4_init_16 19 rfl (fun q16 => ?_)
  have hn16 : k_i2 cI q16 [(q16, .inr (2, [.null, .null, .int 0]))] := rfl
  refine q_dup C dX4_init_19 20 rfl rfl ?_
  refine q_callIN (n := 0) (rest := [.ref q16, .ref h0]) (Rr := [[(h0, .inr (3, [.ref q5, .null, .null, .int 0, .int 0, .int 0, .int 0, .int 0, .int 0, .int 0, .int 0]))], wn9]) C (c_X2_init l hZ hI q16 ([(q16, .inr (2, [.null, .null, .int 0]))]) hn16) gX4_init_X2_init_n20 rfl rfl rfl nst_X2_init iniX2 rfl (ins_X2_init) (by decide +kernel) B.1 ⟨Nat.le_of_ble_eq_true rfl, Nat.le_of_ble_eq_true rfl⟩ rfl rfl (Nat.le_of_ble_eq_true rfl) dX4_init_20 ⟨(Nat.le_of_ble_eq_true rfl), (Nat.le_of_ble_eq_true rfl)⟩ [2] [0, 1] (by decide : ([2] ++ ([0, 1] : List Nat)).Perm (List.range 3)) rfl rfl 23 rfl (fun v0 R0 t0 ht0 hp0 => ?_)
  obtain ⟨rfl, wn20, hwn20, rfl⟩ := hp0
  refine q_eqs (st' := [.ref q16, .ref h0]) rfl ?_
  refine q_reord [1, 2, 0] (by decide : ([1, 2, 0] : List Nat).Perm (List.range 3)) (Rs' := [[(h0, .inr (3, [.ref q5, .null, .null, .int 0, .int 0, .int 0, .int 0, .int 0, .int 0, .int 0, .int 0]))], wn9, wn20]) rfl rfl ?_
  refine q_putF (k := 0) (j := 0) (f := 1) C hinX4 tyX4 tyX4_ok nmX4 f21 (fun _ h => h) (by decide) rfl rfl B.2.2.2.2.2 rfl (tyX4_ok 1 (by decide)) rfl rfl dX4_init_23 26 rfl rfl rfl (Nat.le_of_ble_eq_true rfl) [[(h0, .inr (3, [.ref q5, .ref q16, .null, .int 0, .int 0, .int 0, .int 0, .int 0, .int 0, .int 0, .int 0]))], wn9, wn20] rfl ?_
  refine q_aload_n C dX4_init_26 27 0 rfl rfl ?_
  refine q_iconst (v := nI 3) C dX4_init_27 28 rfl (by decide) ?_
  refine q_newa (N := 3) C hcI arc B.1 dX4_init_28 30 rfl (by decide) (by decide) (by decide) (Nat.le_of_ble_eq_true rfl) (Nat.le_of_ble_eq_true rfl) (fun q28 => ?_)
  refine q_dup C dX4_init_30 31 rfl rfl ?_
  refine q_iconst (v := nI 0) C dX4_init_31 32 rfl (by decide) ?_
  refine q_bipush (v := nI 60) C dX4_init_32 34 rfl (by decide) ?_
  refine q_iast (k := 3) (j := 0) C dX4_init_34 35 rfl rfl rfl hcI 0 rfl (by omega) (by decide) [[(h0, .inr (3, [.ref q5, .ref q16, .null, .int 0, .int 0, .int 0, .int 0, .int 0, .int 0, .int 0, .int 0]))], wn9, wn20, [(q28, .inl (cI, 3, .inl (upd (fun _ => 0) 0 (nI 60))))]] rfl ?_
  refine q_dup C dX4_init_35 36 rfl rfl ?_
  refine q_iconst (v := nI 1) C dX4_init_36 37 rfl (by decide) ?_
  refine q_iconst (v := nI 1) C dX4_init_37 38 rfl (by decide) ?_
  refine q_iast (k := 3) (j := 0) C dX4_init_38 39 rfl rfl rfl hcI 1 rfl (by omega) (by decide) [[(h0, .inr (3, [.ref q5, .ref q16, .null, .int 0, .int 0, .int 0, .int 0, .int 0, .int 0, .int 0, .int 0]))], wn9, wn20, [(q28, .inl (cI, 3, .inl (upd (upd (fun _ => 0) 0 (nI 60)) 1 (nI 1))))]] rfl ?_
  refine q_dup C dX4_init_39 40 rfl rfl ?_
  refine q_iconst (v := nI 2) C dX4_init_40 41 rfl (by decide) ?_
  refine q_iconst (v := nI 1) C dX4_init_41 42 rfl (by decide) ?_
  refine q_iast (k := 3) (j := 0) C dX4_init_42 43 rfl rfl rfl hcI 2 rfl (by omega) (by decide) [[(h0, .inr (3, [.ref q5, .ref q16, .null, .int 0, .int 0, .int 0, .int 0, .int 0, .int 0, .int 0, .int 0]))], wn9, wn20, [(q28, .inl (cI, 3, .inl (upd (upd (upd (fun _ => 0) 0 (nI 60)) 1 (nI 1)) 2 (nI 1))))]] rfl ?_
  refine q_putF (k := 0) (j := 0) (f := 2) C hinX4 tyX4 tyX4_ok nmX4 f25 (fun _ h => h) (by decide) rfl rfl B.2.2.2.2.2 rfl (tyX4_ok 2 (by decide)) rfl rfl dX4_init_43 46 rfl rfl rfl (Nat.le_of_ble_eq_true rfl) [[(h0, .inr (3, [.ref q5, .ref q16, .ref q28, .int 0, .int 0, .int 0, .int 0, .int 0, .int 0, .int 0, .int 0]))], wn9, wn20, [(q28, .inl (cI, 3, .inl (upd (upd (upd (fun _ => 0) 0 (nI 60)) 1 (nI 1)) 2 (nI 1))))]] rfl ?_
  refine q_aload_n C dX4_init_46 47 0 rfl rfl ?_
  refine q_iconst (v := -1) C dX4_init_47 48 rfl (by decide) ?_
  refine q_put (k := 0) (j := 0) (f := 3) C hinX4 tyX4 tyX4_ok nmX4 f29 (fun _ h => h) (by decide) rfl rfl (tyX4_ok 3 (by decide)) rfl rfl dX4_init_48 51 rfl rfl rfl (Nat.le_of_ble_eq_true rfl) [[(h0, .inr (3, [.ref q5, .ref q16, .ref q28, .int (-1), .int 0, .int 0, .int 0, .int 0, .int 0, .int 0, .int 0]))], wn9, wn20, [(q28, .inl (cI, 3, .inl (upd (upd (upd (fun _ => 0) 0 (nI 60)) 1 (nI 1)) 2 (nI 1))))]] rfl ?_
  refine q_aload_n C dX4_init_51 52 0 rfl rfl ?_
  refine q_iconst (v := nI 0) C dX4_init_52 53 rfl (by decide) ?_
  refine q_put (k := 0) (j := 0) (f := 4) C hinX4 tyX4 tyX4_ok nmX4 f33 (fun _ h => h) (by decide) rfl rfl (tyX4_ok 4 (by decide)) rfl rfl dX4_init_53 56 rfl rfl rfl (Nat.le_of_ble_eq_true rfl) [[(h0, .inr (3, [.ref q5, .ref q16, .ref q28, .int (-1), .int (nI 0), .int 0, .int 0, .int 0, .int 0, .int 0, .int 0]))], wn9, wn20, [(q28, .inl (cI, 3, .inl (upd (upd (upd (fun _ => 0) 0 (nI 60)) 1 (nI 1)) 2 (nI 1))))]] rfl ?_
  refine q_aload_n C dX4_init_56 57 0 rfl rfl ?_
  refine q_iconst (v := nI 0) C dX4_init_57 58 rfl (by decide) ?_
  refine q_put (k := 0) (j := 0) (f := 5) C hinX4 tyX4 tyX4_ok nmX4 f36 (fun _ h => h) (by decide) rfl rfl (tyX4_ok 5 (by decide)) rfl rfl dX4_init_58 61 rfl rfl rfl (Nat.le_of_ble_eq_true rfl) [[(h0, .inr (3, [.ref q5, .ref q16, .ref q28, .int (-1), .int (nI 0), .int (nI 0), .int 0, .int 0, .int 0, .int 0, .int 0]))], wn9, wn20, [(q28, .inl (cI, 3, .inl (upd (upd (upd (fun _ => 0) 0 (nI 60)) 1 (nI 1)) 2 (nI 1))))]] rfl ?_
  refine q_aload_n C dX4_init_61 62 0 rfl rfl ?_
  refine q_iconst (v := nI 0) C dX4_init_62 63 rfl (by decide) ?_
  refine q_put (k := 0) (j := 0) (f := 6) C hinX4 tyX4 tyX4_ok nmX4 f39 (fun _ h => h) (by decide) rfl rfl (tyX4_ok 6 (by decide)) rfl rfl dX4_init_63 66 rfl rfl rfl (Nat.le_of_ble_eq_true rfl) [[(h0, .inr (3, [.ref q5, .ref q16, .ref q28, .int (-1), .int (nI 0), .int (nI 0), .int (nI 0), .int 0, .int 0, .int 0, .int 0]))], wn9, wn20, [(q28, .inl (cI, 3, .inl (upd (upd (upd (fun _ => 0) 0 (nI 60)) 1 (nI 1)) 2 (nI 1))))]] rfl ?_
  refine q_aload_n C dX4_init_66 67 0 rfl rfl ?_
  refine q_iconst (v := nI 0) C dX4_init_67 68 rfl (by decide) ?_
  refine q_put (k := 0) (j := 0) (f := 7) C hinX4 tyX4 tyX4_ok nmX4 f42 (fun _ h => h) (by decide) rfl rfl (tyX4_ok 7 (by decide)) rfl rfl dX4_init_68 71 rfl rfl rfl (Nat.le_of_ble_eq_true rfl) [[(h0, .inr (3, [.ref q5, .ref q16, .ref q28, .int (-1), .int (nI 0), .int (nI 0), .int (nI 0), .int (nI 0), .int 0, .int 0, .int 0]))], wn9, wn20, [(q28, .inl (cI, 3, .inl (upd (upd (upd (fun _ => 0) 0 (nI 60)) 1 (nI 1)) 2 (nI 1))))]] rfl ?_
  refine q_aload_n C dX4_init_71 72 0 rfl rfl ?_
  refine q_iconst (v := nI 0) C dX4_init_72 73 rfl (by decide) ?_
  refine q_put (k := 0) (j := 0) (f := 8) C hinX4 tyX4 tyX4_ok nmX4 f45 (fun _ h => h) (by decide) rfl rfl (tyX4_ok 8 (by decide)) rfl rfl dX4_init_73 76 rfl rfl rfl (Nat.le_of_ble_eq_true rfl) [[(h0, .inr (3, [.ref q5, .ref q16, .ref q28, .int (-1), .int (nI 0), .int (nI 0), .int (nI 0), .int (nI 0), .int (nI 0), .int 0, .int 0]))], wn9, wn20, [(q28, .inl (cI, 3, .inl (upd (upd (upd (fun _ => 0) 0 (nI 60)) 1 (nI 1)) 2 (nI 1))))]] rfl ?_
  refine q_aload_n C dX4_init_76 77 0 rfl rfl ?_
  refine q_iconst (v := -1) C dX4_init_77 78 rfl (by decide) ?_
  refine q_put (k := 0) (j := 0) (f := 9) C hinX4 tyX4 tyX4_ok nmX4 f48 (fun _ h => h) (by decide) rfl rfl (tyX4_ok 9 (by decide)) rfl rfl dX4_init_78 81 rfl rfl rfl (Nat.le_of_ble_eq_true rfl) [[(h0, .inr (3, [.ref q5, .ref q16, .ref q28, .int (-1), .int (nI 0), .int (nI 0), .int (nI 0), .int (nI 0), .int (nI 0), .int (-1), .int 0]))], wn9, wn20, [(q28, .inl (cI, 3, .inl (upd (upd (upd (fun _ => 0) 0 (nI 60)) 1 (nI 1)) 2 (nI 1))))]] rfl ?_
  refine q_aload_n C dX4_init_81 82 0 rfl rfl ?_
  refine q_iconst (v := -1) C dX4_init_82 83 rfl (by decide) ?_
  refine q_put (k := 0) (j := 0) (f := 10) C hinX4 tyX4 tyX4_ok nmX4 f51 (fun _ h => h) (by decide) rfl rfl (tyX4_ok 10 (by decide)) rfl rfl dX4_init_83 86 rfl rfl rfl (Nat.le_of_ble_eq_true rfl) [[(h0, .inr (3, [.ref q5, .ref q16, .ref q28, .int (-1), .int (nI 0), .int (nI 0), .int (nI 0), .int (nI 0), .int (nI 0), .int (-1), .int (-1)]))], wn9, wn20, [(q28, .inl (cI, 3, .inl (upd (upd (upd (fun _ => 0) 0 (nI 60)) 1 (nI 1)) 2 (nI 1))))]] rfl ?_
  refine q_reord [0, 3, 1, 2] (by decide : ([0, 3, 1, 2] : List Nat).Perm (List.range 4)) (Rs' := [[(h0, .inr (3, [.ref q5, .ref q16, .ref q28, .int (-1), .int (nI 0), .int (nI 0), .int (nI 0), .int (nI 0), .int (nI 0), .int (-1), .int (-1)]))], [(q28, .inl (cI, 3, .inl (upd (upd (upd (fun _ => 0) 0 (nI 60)) 1 (nI 1)) 2 (nI 1))))], wn9, wn20]) rfl rfl ?_
  refine q_resp (Rs' := [[[(h0, .inr (3, [.ref q5, .ref q16, .ref q28, .int (-1), .int (nI 0), .int (nI 0), .int (nI 0), .int (nI 0), .int (nI 0), .int (-1), .int (-1)]))], [(q28, .inl (cI, 3, .inl (upd (upd (upd (fun _ => 0) 0 (nI 60)) 1 (nI 1)) 2 (nI 1))))], wn9, wn20].flatten]) (List.append_nil _).symm ?_
  exact q_vret C B dX4_init_86 rfl rfl (fun t0 ht0 => ⟨rfl, _, k_isS_mk (aB := q5) (aL := q16) rfl ⟨_, k_sc0_A, rfl⟩ hwn9 hwn20, rfl⟩)

set_option maxHeartbeats 400000 in
set_option maxRecDepth 100000 in
theorem c_X1_init (l : Launch) {D : va_G} {tys : List (ClassId × FieldType)} {Z : (Nat → Prop) → State → Heap → Prop} (hZ : q_St Z) {cI : ClassId} (hI : tys[0]? = some (cI, .int)) (hN : q_Ns Z) {cG : ClassId} (hG : tys[1]? = some (cG, .object "SortCases$State")) (hAO : q_Na Z) (h0 : Nat) (w : va_W) (h : k_i1 cI h0 w) : q_Ct l D tys Z yX1_init wsX1_init ({ frames := 4, cells := 49, slots := 2502, locals := 132 } : Room) 49 2502 [.ref h0] [w] (fun v0 R0 _ => v0 = none ∧ ∃ w', k_isH cG cI h0 [] w' ∧ R0 = [w']) := by
  have hcI := hI
  have hcG := hG
  refine q_ct (cc := cX1_init) (maxL := 2) (ret := none) (own := RX1) (by decide) rfl hZ (Nat.le_of_ble_eq_true rfl) rfl ?_
  intro p9 e9 R s9 m9 args below meth c9 A Q C B
  have hts := C.2.2.2.2.1
  have oi1 := hts (.methodLink RX1 3 objectInit) (by decide +kernel)
  have oi2 := hts (.instanceMethod objectInit) (by decide +kernel)
  have oi3 := hts (.code objectInit ⟨#[0xb1]⟩ 1 none) (by decide +kernel)
  have cl9 := hts (.classLink RX1 9 RX4) (by decide +kernel)
  have hinX1 : ∀ w ∈ u_ws RX1 TX1 3, w ∈ wsX1_init := by decide +kernel
  have f11 := hts (.fieldLink RX1 11 "SortCases$History" "ring" "[LSortCases$State;") (by decide +kernel)
  have f17 := hts (.fieldLink RX1 17 "SortCases$History" "next" "I") (by decide +kernel)
  have f21 := hts (.fieldLink RX1 21 "SortCases$History" "size" "I") (by decide +kernel)
  have hinX4 : ∀ w ∈ u_ws RX4 TX4 11, w ∈ wsX1_init := by decide +kernel
  have instX4 := hts (.instantiable RX4 11) (by decide +kernel)
  have iniX4 := hts (.initialized RX4) (by decide +kernel)
  have nst_X4_init := q_nst hN C (by decide +kernel : Cond.methodLinkNest "SortCases$History" 24 yX4_init "SortCases" ∈ q_nest)
  have ins_X4_init := hts (.instanceMethod yX4_init) (by decide +kernel)
  refine q_eqL (L' := [(0, .ref h0)]) rfl ?_
  obtain rfl := h
  refine q_aload_n C dX1_init_0 1 0 rfl rfl ?_
  refine q_objInit C oi1 oi2 oi3 B.1 (Nat.le_of_ble_eq_true rfl) (Nat.le_of_ble_eq_true rfl) dX1_init_1 4 rfl ?_
  refine q_aload_n C dX1_init_4 5 0 rfl rfl ?_
  refine q_bipush (v := nI 6) C dX1_init_5 7 rfl (by decide) ?_
  refine q_newq (N := 6) C hG cl9 (hAO _ _ _ C.2.2.2.2.2.2.2.1) B.1 dX1_init_7 10 rfl (by decide) (by decide) (by decide) (Nat.le_of_ble_eq_true rfl) (Nat.le_of_ble_eq_true rfl) (fun q7 => ?_)
  refine q_putF (k := 0) (j := 0) (f := 0) C hinX1 tyX1 tyX1_ok nmX1 f11 (fun _ h => h) (by decide) rfl rfl B.2.2.2.2.2 rfl (tyX1_ok 0 (by decide)) rfl rfl dX1_init_10 13 rfl rfl rfl (Nat.le_of_ble_eq_true rfl) [[(h0, .inr (1, [.ref q7, .int 0, .int 0]))], [(q7, .inl (cG, 6, .inr (.inr (.inr (.inr (fun _ => none))))))]] rfl ?_
  refine q_aload_n C dX1_init_13 14 0 rfl rfl ?_
  refine q_iconst (v := nI 0) C dX1_init_14 15 rfl (by decide) ?_
  refine q_put (k := 0) (j := 0) (f := 1) C hinX1 tyX1 tyX1_ok nmX1 f17 (fun _ h => h) (by decide) rfl rfl (tyX1_ok 1 (by decide)) rfl rfl dX1_init_15 18 rfl rfl rfl (Nat.le_of_ble_eq_true rfl) [[(h0, .inr (1, [.ref q7, .int (nI 0), .int 0]))], [(q7, .inl (cG, 6, .inr (.inr (.inr (.inr (fun _ => none))))))]] rfl ?_
  refine q_aload_n C dX1_init_18 19 0 rfl rfl ?_
  refine q_iconst (v := nI 0) C dX1_init_19 20 rfl (by decide) ?_
  refine q_put (k := 0) (j := 0) (f := 2) C hinX1 tyX1 tyX1_ok nmX1 f21 (fun _ h => h) (by decide) rfl rfl (tyX1_ok 2 (by decide)) rfl rfl dX1_init_20 23 rfl rfl rfl (Nat.le_of_ble_eq_true rfl) [[(h0, .inr (1, [.ref q7, .int (nI 0), .int (nI 0)]))], [(q7, .inl (cG, 6, .inr (.inr (.inr (.inr (fun _ => none))))))]] rfl ?_
  refine q_resp (Rs' := [k_Hc cG h0 q7 0 0 (fun _ => none) ++ k_flat (fun _ => []) 0]) rfl ?_
  have hJ0 : k_h0 cG cI h0 q7 0 (k_Hc cG h0 q7 0 0 (fun _ => none) ++ k_flat (fun _ => []) 0) := ⟨_, fun _ => 0, _, fun i hi => absurd hi (Nat.not_lt_zero i), rfl⟩
  refine q_iconst (v := nI 0) C dX1_init_23 24 rfl (by decide) ?_
  refine q_istore_n C dX1_init_24 25 rfl [(1, .int (nI 0)), (0, .ref h0)] (by decide) rfl ?_
  have lp : ∀ (kk : Nat) (i : Nat) (wb : va_W), 6 - i < kk → ∀ (hi : i ≤ 6), ∀ (hwb : k_h0 cG cI h0 q7 i wb), q_V p9 l e9 R s9 m9 args below meth c9 D A 2 Q (1 + 8 * i) (6 + 416 * i) 25 [(1, .int (nI i)), (0, .ref h0)] [] [wb] := by
    intro kk
    induction kk with
    | zero => intro i wb hkk; exact absurd hkk (Nat.not_lt_zero _)
    | succ kk ih_lp =>
      intro i wb hkk hi hwb
      refine q_iload_n C dX1_init_25 26 0 rfl rfl ?_
      obtain ⟨f, g, W, h6, rfl⟩ := hwb
      refine q_resp (Rs' := [[(h0, .inr (1, [.ref q7, .int (nI 0), .int (nI 0)])), (q7, .inl (cG, 6, .inr (.inr (.inr (.inr f)))))], (k_flat W i)]) (k_fl2 (X := [(h0, .inr (1, [.ref q7, .int (nI 0), .int (nI 0)])), (q7, .inl (cG, 6, .inr (.inr (.inr (.inr f)))))])) ?_
      refine q_aload_n C dX1_init_26 27 1 rfl rfl ?_
      refine q_get (k := 0) (j := 0) (f := 0) C hinX1 f11 (fun _ h => h) (by decide) rfl dX1_init_27 30 rfl rfl rfl rfl ?_
      refine q_alen (k := 0) (j := 1) (v := nI 6) C dX1_init_30 31 rfl rfl rfl hcG rfl ?_
      refine q_icmp_ge C dX1_init_31 34 53 rfl (by decide) (nI_leI (by omega) (by omega)) (fun h31 => ?_) (fun h31 => ?_)
      · obtain rfl : i = 6 := by omega
        refine q_resp (Rs' := [k_Hc cG h0 q7 0 0 f ++ k_flat W 6]) k_fl2.symm ?_
        refine q_eqn (cells' := 49) (slots' := 2502) (by omega) (by omega) ?_
        exact q_vret C B dX1_init_53 rfl rfl (fun t0 ht0 => ⟨rfl, _, k_h0_isH ⟨f, g, W, h6, rfl⟩, rfl⟩)
      · refine q_aload_n C dX1_init_34 35 1 rfl rfl ?_
        refine q_get (k := 0) (j := 0) (f := 0) C hinX1 f11 (fun _ h => h) (by decide) rfl dX1_init_35 38 rfl rfl rfl rfl ?_
        refine q_iload_n C dX1_init_38 39 0 rfl rfl ?_
        refine q_new (ci := 3) (fs := [.null, .null, .null, .int 0, .int 0, .int 0, .int 0, .int 0, .int 0, .int 0, .int 0]) C hinX4 tyX4 tyX4_ok cl9 instX4 iniX4 rfl (by intro j hj; match j, hj with | 0, _ => rfl | 1, _ => rfl | 2, _ => rfl | 3, _ => rfl | 4, _ => rfl | 5, _ => rfl | 6, _ => rfl | 7, _ => rfl | 8, _ => rfl | 9, _ => rfl | 10, _ => rfl) B.1 (by show (1 + 8 * i) + 1 ≤ 49; omega) (by show (6 + 416 * i) + 11 ≤ 2502; omega) dX1_init_39 42 rfl (fun q39 => ?_)
        have hn39 : k_i4 cI q39 [(q39, .inr (3, [.null, .null, .null, .int 0, .int 0, .int 0, .int 0, .int 0, .int 0, .int 0, .int 0]))] := rfl
        refine q_dup C dX1_init_42 43 rfl rfl ?_
        refine q_callIN (n := 0) (rest := [.ref q39, .int (nI i), .ref q7]) (Rr := [[(h0, .inr (1, [.ref q7, .int (nI 0), .int (nI 0)])), (q7, .inl (cG, 6, .inr (.inr (.inr (.inr f)))))], (k_flat W i)]) C (c_X4_init_s l hZ hI hN q39 ([(q39, .inr (3, [.null, .null, .null, .int 0, .int 0, .int 0, .int 0, .int 0, .int 0, .int 0, .int 0]))]) hn39) gX1_init_X4_init_n24 rfl rfl rfl nst_X4_init iniX4 rfl (ins_X4_init) (by decide +kernel) B.1 ⟨Nat.le_of_ble_eq_true rfl, Nat.le_of_ble_eq_true rfl⟩ rfl rfl (Nat.le_of_ble_eq_true rfl) dX1_init_43 ⟨(by show ((1 + 8 * i) + 1) + 7 ≤ 49; omega), (by show ((6 + 416 * i) + 11) + 405 ≤ 2502; omega)⟩ [2] [0, 1] (by decide : ([2] ++ ([0, 1] : List Nat)).Perm (List.range 3)) rfl rfl 46 rfl (fun v0 R0 t0 ht0 hp0 => ?_)
        obtain ⟨rfl, wn43, hwn43, rfl⟩ := hp0
        refine q_eqs (st' := [.ref q39, .int (nI i), .ref q7]) rfl ?_
        refine q_reord [1, 2, 0] (by decide : ([1, 2, 0] : List Nat).Perm (List.range 3)) (Rs' := [[(h0, .inr (1, [.ref q7, .int (nI 0), .int (nI 0)])), (q7, .inl (cG, 6, .inr (.inr (.inr (.inr f)))))], (k_flat W i), wn43]) rfl rfl ?_
        obtain ⟨fs46, hfs46⟩ := k_isS_recv hwn43
        refine q_astq (k := 0) (j := 1) (k2 := 2) (j2 := 0) (t0 := 1) (ci := 3) (vs := fs46) C dX1_init_46 47 rfl rfl rfl hG rfl hfs46 rfl i rfl (by omega) (by decide) [[(h0, .inr (1, [.ref q7, .int (nI 0), .int (nI 0)])), (q7, .inl (cG, 6, .inr (.inr (.inr (.inr (va_up f i (some q39)))))))], (k_flat W i), wn43] rfl ?_
        refine q_resp (Rs' := [k_Hc cG h0 q7 0 0 (va_up f i (some q39)) ++ (k_flat W i ++ wn43)]) (by simp [k_Hc]) ?_
        have hJ2 : k_h0 cG cI h0 q7 (i + 1) (k_Hc cG h0 q7 0 0 (va_up f i (some q39)) ++ (k_flat W i ++ wn43)) := k_h0_add h6 hwn43
        refine q_iinc (v := nI (i + 1)) C dX1_init_47 50 0 rfl rfl (q_ninc1 (by omega)) [(1, .int (nI (i + 1))), (0, .ref h0)] (by decide) rfl ?_
        refine q_goto C dX1_init_50 25 (by decide) ?_
        refine q_sub (L' := [(1, .int (nI (i + 1))), (0, .ref h0)]) [0, 1] rfl ?_
        refine q_eqn (cells' := (1 + 8 * (i + 1))) (slots' := (6 + 416 * (i + 1))) (by omega) (by omega) ?_
        exact ih_lp (i + 1) (k_Hc cG h0 q7 0 0 (va_up f i (some q39)) ++ (k_flat W i ++ wn43)) (by omega) (by omega) hJ2
  refine q_sub (L' := [(1, .int (nI 0)), (0, .ref h0)]) [0, 1] rfl ?_
  refine q_eqn (cells' := (1 + 8 * 0)) (slots' := (6 + 416 * 0)) (by omega) (by omega) ?_
  exact lp _ 0 (k_Hc cG h0 q7 0 0 (fun _ => none) ++ k_flat (fun _ => []) 0) (Nat.lt_succ_self _) (by omega) hJ0

set_option maxHeartbeats 400000 in
set_option maxRecDepth 100000 in
theorem c_X1_save (l : Launch) {D : va_G} {tys : List (ClassId × FieldType)} {Z : (Nat → Prop) → State → Heap → Prop} (hZ : q_St Z) {cI : ClassId} (hI : tys[0]? = some (cI, .int)) {cG : ClassId} (hG : tys[1]? = some (cG, .object "SortCases$State")) (h0 : Nat) (sv : List k_S) (wH : va_W) (hH : k_isH cG cI h0 sv wH) (h1 : Nat) (aB : Nat) (aL : Nat) (aS : Nat) (sc : Nat → Int32) (wO : va_W) (hO : k_isO cI h1 aB aL aS sc wO) (wA : va_W) (hA : k_isA cI aS sc wA) (bx : k_Bx) (at0 : Nat) (wB : va_W) (hB : k_isB cI aB bx at0 wB) (ln : List (Nat × Nat)) (wL : va_W) (hL : k_isL cI aL ln wL) : q_Ct l D tys Z yX1_save wsX1_save ({ frames := 3, cells := 0, slots := 0, locals := 102 } : Room) 0 0 [.ref h0, .ref h1] [wH, wO, wA, wB, wL] (fun v0 R0 _ => v0 = none ∧ ∃ wH', k_isH cG cI h0 (k_sav sv (bx, at0, ln, sc)) wH' ∧ R0 = [wH', wO, wA, wB, wL]) := by
  have hcI := hI
  have hcG := hG
  refine q_ct (cc := cX1_save) (maxL := 2) (ret := none) (own := RX1) (by decide) rfl hZ (Nat.le_of_ble_eq_true rfl) rfl ?_
  intro p9 e9 R s9 m9 args below meth c9 A Q C B
  have hts := C.2.2.2.2.1
  have hinX1 : ∀ w ∈ u_ws RX1 TX1 3, w ∈ wsX1_save := by decide +kernel
  have f17 := hts (.fieldLink RX1 17 "SortCases$History" "next" "I") (by decide +kernel)
  have f11 := hts (.fieldLink RX1 11 "SortCases$History" "ring" "[LSortCases$State;") (by decide +kernel)
  have f21 := hts (.fieldLink RX1 21 "SortCases$History" "size" "I") (by decide +kernel)
  refine q_eqL (L' := [(0, .ref h0), (1, .ref h1)]) rfl ?_
  obtain ⟨aG, nx, f, g, T, W, hat, h6, rfl⟩ := hH
  have hl6 := hat.1
  have hnx := hat.2.1
  obtain ⟨hfn, paB, paL, paS, pwO, pwA, pwB, pwL, phO, phA, phB, phL, hpw⟩ := h6 nx (by omega)
  refine q_prm (Rs' := [[(h0, .inr (1, [.ref aG, .int (nI nx), .int (nI sv.length)])), (aG, .inl (cG, 6, .inr (.inr (.inr (.inr f)))))], (k_Hr W nx), pwO, pwA, pwB, pwL, wO, wA, wB, wL]) (k_H_out (by omega) hpw) ?_
  refine q_aload_n C dX1_save_0 1 0 rfl rfl ?_
  refine q_get (k := 0) (j := 0) (f := 1) C hinX1 f17 (fun _ h => h) (by decide) rfl dX1_save_1 4 rfl rfl rfl rfl ?_
  refine q_if_lt C dX1_save_4 7 31 rfl (by decide) (q_lt0 (by omega)) (fun h4 => False.elim (by first | omega | simp_all)) (fun h4 => ?_)
  refine q_aload_n C dX1_save_7 8 0 rfl rfl ?_
  refine q_get (k := 0) (j := 0) (f := 1) C hinX1 f17 (fun _ h => h) (by decide) rfl dX1_save_8 11 rfl rfl rfl rfl ?_
  refine q_aload_n C dX1_save_11 12 0 rfl rfl ?_
  refine q_get (k := 0) (j := 0) (f := 0) C hinX1 f11 (fun _ h => h) (by decide) rfl dX1_save_12 15 rfl rfl rfl rfl ?_
  refine q_alen (k := 0) (j := 1) (v := nI 6) C dX1_save_15 16 rfl rfl rfl hcG rfl ?_
  refine q_icmp_ge C dX1_save_16 19 31 rfl (by decide) (nI_leI (by omega) (by omega)) (fun h16 => False.elim (by first | omega | simp_all)) (fun h16 => ?_)
  refine q_aload_n C dX1_save_19 20 0 rfl rfl ?_
  refine q_get (k := 0) (j := 0) (f := 0) C hinX1 f11 (fun _ h => h) (by decide) rfl dX1_save_20 23 rfl rfl rfl rfl ?_
  refine q_aload_n C dX1_save_23 24 0 rfl rfl ?_
  refine q_get (k := 0) (j := 0) (f := 1) C hinX1 f17 (fun _ h => h) (by decide) rfl dX1_save_24 27 rfl rfl rfl rfl ?_
  refine q_aldq (k := 0) (j := 1) (t0 := 1) (v := .ref ((g nx))) C dX1_save_27 28 rfl rfl rfl hG nx rfl (by omega) (by decide) (by rw [hfn]; rfl) ?_
  refine q_ifnonnull C dX1_save_28 32 (by decide) ?_
  refine q_aload_n C dX1_save_32 33 0 rfl rfl ?_
  refine q_get (k := 0) (j := 0) (f := 0) C hinX1 f11 (fun _ h => h) (by decide) rfl dX1_save_33 36 rfl rfl rfl rfl ?_
  refine q_aload_n C dX1_save_36 37 0 rfl rfl ?_
  refine q_get (k := 0) (j := 0) (f := 1) C hinX1 f17 (fun _ h => h) (by decide) rfl dX1_save_37 40 rfl rfl rfl rfl ?_
  refine q_aldq (k := 0) (j := 1) (t0 := 1) (v := .ref ((g nx))) C dX1_save_40 41 rfl rfl rfl hG nx rfl (by omega) (by decide) (by rw [hfn]; rfl) ?_
  refine q_aload_n C dX1_save_41 42 1 rfl rfl ?_
  refine q_callV (k := 2) (ci := 3) (n := 1) (rest := []) (Rr := [[(h0, .inr (1, [.ref aG, .int (nI nx), .int (nI sv.length)])), (aG, .inl (cG, 6, .inr (.inr (.inr (.inr f)))))], (k_Hr W nx)]) C rfl (k_isO_recv phO) rfl (c_X4_copyFrom l hZ hI ((g nx)) paB paL paS ((T nx).2.2.2) pwO phO pwA phA ((T nx).1) ((T nx).2.1) pwB phB ((T nx).2.2.1) pwL phL h1 aB aL aS sc wO hO wA hA bx at0 wB hB ln wL hL) gX1_save_X4_copyFrom rfl rfl rfl (by decide +kernel) B.1 ⟨Nat.le_of_ble_eq_true rfl, Nat.le_of_ble_eq_true rfl⟩ rfl rfl (Nat.le_of_ble_eq_true rfl) dX1_save_42 ⟨(Nat.le_of_ble_eq_true rfl), (Nat.le_of_ble_eq_true rfl)⟩ [2, 3, 4, 5, 6, 7, 8, 9] [0, 1] (by decide : ([2, 3, 4, 5, 6, 7, 8, 9] ++ ([0, 1] : List Nat)).Perm (List.range 10)) rfl rfl 45 rfl (fun v0 R0 t0 ht0 hp0 => ?_)
  obtain ⟨rfl, wO_42, hwO_42, wA_42, hwA_42, wB_42, hwB_42, wL_42, hwL_42, rfl⟩ := hp0
  refine q_eqs (st' := []) rfl ?_
  refine q_reord [8, 9, 0, 1, 2, 3, 4, 5, 6, 7] (by decide : ([8, 9, 0, 1, 2, 3, 4, 5, 6, 7] : List Nat).Perm (List.range 10)) (Rs' := [[(h0, .inr (1, [.ref aG, .int (nI nx), .int (nI sv.length)])), (aG, .inl (cG, 6, .inr (.inr (.inr (.inr f)))))], (k_Hr W nx), wO_42, wA_42, wB_42, wL_42, wO, wA, wB, wL]) rfl rfl ?_
  refine q_aload_n C dX1_save_45 46 0 rfl rfl ?_
  refine q_aload_n C dX1_save_46 47 0 rfl rfl ?_
  refine q_get (k := 0) (j := 0) (f := 1) C hinX1 f17 (fun _ h => h) (by decide) rfl dX1_save_47 50 rfl rfl rfl rfl ?_
  refine q_iconst (v := nI 1) C dX1_save_50 51 rfl (by decide) ?_
  refine q_iadd (v := nI (nx + 1)) C dX1_save_51 52 rfl (q_nadd (by omega)) ?_
  refine q_aload_n C dX1_save_52 53 0 rfl rfl ?_
  refine q_get (k := 0) (j := 0) (f := 0) C hinX1 f11 (fun _ h => h) (by decide) rfl dX1_save_53 56 rfl rfl rfl rfl ?_
  refine q_alen (k := 0) (j := 1) (v := nI 6) C dX1_save_56 57 rfl rfl rfl hcG rfl ?_
  refine q_icmp_ge C dX1_save_57 60 69 rfl (by decide) (nI_leI (by omega) (by omega)) (fun h57 => ?_) (fun h57 => ?_)
  · refine q_iconst (v := nI 0) C dX1_save_69 70 rfl (by decide) ?_
    refine q_put (k := 0) (j := 0) (f := 1) C hinX1 tyX1 tyX1_ok nmX1 f17 (fun _ h => h) (by decide) rfl rfl (tyX1_ok 1 (by decide)) rfl rfl dX1_save_70 73 rfl rfl rfl (Nat.le_of_ble_eq_true rfl) [[(h0, .inr (1, [.ref aG, .int (nI 0), .int (nI sv.length)])), (aG, .inl (cG, 6, .inr (.inr (.inr (.inr f)))))], (k_Hr W nx), wO_42, wA_42, wB_42, wL_42, wO, wA, wB, wL] rfl ?_
    refine q_aload_n C dX1_save_73 74 0 rfl rfl ?_
    refine q_aload_n C dX1_save_74 75 0 rfl rfl ?_
    refine q_get (k := 0) (j := 0) (f := 2) C hinX1 f21 (fun _ h => h) (by decide) rfl dX1_save_75 78 rfl rfl rfl rfl ?_
    refine q_aload_n C dX1_save_78 79 0 rfl rfl ?_
    refine q_get (k := 0) (j := 0) (f := 0) C hinX1 f11 (fun _ h => h) (by decide) rfl dX1_save_79 82 rfl rfl rfl rfl ?_
    refine q_alen (k := 0) (j := 1) (v := nI 6) C dX1_save_82 83 rfl rfl rfl hcG rfl ?_
    refine q_icmp_ge C dX1_save_83 86 95 rfl (by decide) (nI_leI (by omega) (by omega)) (fun h83 => ?_) (fun h83 => ?_)
    · refine q_aload_n C dX1_save_95 96 0 rfl rfl ?_
      refine q_get (k := 0) (j := 0) (f := 0) C hinX1 f11 (fun _ h => h) (by decide) rfl dX1_save_96 99 rfl rfl rfl rfl ?_
      refine q_alen (k := 0) (j := 1) (v := nI 6) C dX1_save_99 100 rfl rfl rfl hcG rfl ?_
      refine q_put (k := 0) (j := 0) (f := 2) C hinX1 tyX1 tyX1_ok nmX1 f21 (fun _ h => h) (by decide) rfl rfl (tyX1_ok 2 (by decide)) rfl rfl dX1_save_100 103 rfl rfl rfl (Nat.le_of_ble_eq_true rfl) [[(h0, .inr (1, [.ref aG, .int (nI 0), .int (nI 6)])), (aG, .inl (cG, 6, .inr (.inr (.inr (.inr f)))))], (k_Hr W nx), wO_42, wA_42, wB_42, wL_42, wO, wA, wB, wL] rfl ?_
      refine q_prm (Rs' := [([(h0, .inr (1, [.ref aG, .int (nI 0), .int (nI 6)])), (aG, .inl (cG, 6, .inr (.inr (.inr (.inr f)))))] ++ k_flat (fun j => if j = nx then [wO_42, wA_42, wB_42, wL_42].flatten else W j) 6), wO, wA, wB, wL]) (k_H_in (i := nx) (by omega)) ?_
      exact q_vret C B dX1_save_103 rfl rfl (fun t0 ht0 => ⟨rfl, _, ⟨aG, _, f, g, _, _, k_Hat_sav (S := (bx, at0, ln, sc)) hat (by first | rw [if_pos (by omega)] | rw [if_neg (by omega)]), k_H6_rep h6 (k_isS_mk hwO_42 hwA_42 hwB_42 hwL_42), by rw [k_sav_len]; first | rw [if_pos (by omega)] ; rfl | rw [if_neg (by omega), if_pos (by omega)]; rfl⟩, rfl⟩)
    · refine q_aload_n C dX1_save_86 87 0 rfl rfl ?_
      refine q_get (k := 0) (j := 0) (f := 2) C hinX1 f21 (fun _ h => h) (by decide) rfl dX1_save_87 90 rfl rfl rfl rfl ?_
      refine q_iconst (v := nI 1) C dX1_save_90 91 rfl (by decide) ?_
      refine q_iadd (v := nI (sv.length + 1)) C dX1_save_91 92 rfl (q_nadd (by omega)) ?_
      refine q_goto C dX1_save_92 100 (by decide) ?_
      refine q_put (k := 0) (j := 0) (f := 2) C hinX1 tyX1 tyX1_ok nmX1 f21 (fun _ h => h) (by decide) rfl rfl (tyX1_ok 2 (by decide)) rfl rfl dX1_save_100 103 rfl rfl rfl (Nat.le_of_ble_eq_true rfl) [[(h0, .inr (1, [.ref aG, .int (nI 0), .int (nI (sv.length + 1))])), (aG, .inl (cG, 6, .inr (.inr (.inr (.inr f)))))], (k_Hr W nx), wO_42, wA_42, wB_42, wL_42, wO, wA, wB, wL] rfl ?_
      refine q_prm (Rs' := [([(h0, .inr (1, [.ref aG, .int (nI 0), .int (nI (sv.length + 1))])), (aG, .inl (cG, 6, .inr (.inr (.inr (.inr f)))))] ++ k_flat (fun j => if j = nx then [wO_42, wA_42, wB_42, wL_42].flatten else W j) 6), wO, wA, wB, wL]) (k_H_in (i := nx) (by omega)) ?_
      exact q_vret C B dX1_save_103 rfl rfl (fun t0 ht0 => ⟨rfl, _, ⟨aG, _, f, g, _, _, k_Hat_sav (S := (bx, at0, ln, sc)) hat (by first | rw [if_pos (by omega)] | rw [if_neg (by omega)]), k_H6_rep h6 (k_isS_mk hwO_42 hwA_42 hwB_42 hwL_42), by rw [k_sav_len]; first | rw [if_pos (by omega)] ; rfl | rw [if_neg (by omega), if_pos (by omega)]; rfl⟩, rfl⟩)
  · refine q_aload_n C dX1_save_60 61 0 rfl rfl ?_
    refine q_get (k := 0) (j := 0) (f := 1) C hinX1 f17 (fun _ h => h) (by decide) rfl dX1_save_61 64 rfl rfl rfl rfl ?_
    refine q_iconst (v := nI 1) C dX1_save_64 65 rfl (by decide) ?_
    refine q_iadd (v := nI (nx + 1)) C dX1_save_65 66 rfl (q_nadd (by omega)) ?_
    refine q_goto C dX1_save_66 70 (by decide) ?_
    refine q_put (k := 0) (j := 0) (f := 1) C hinX1 tyX1 tyX1_ok nmX1 f17 (fun _ h => h) (by decide) rfl rfl (tyX1_ok 1 (by decide)) rfl rfl dX1_save_70 73 rfl rfl rfl (Nat.le_of_ble_eq_true rfl) [[(h0, .inr (1, [.ref aG, .int (nI (nx + 1)), .int (nI sv.length)])), (aG, .inl (cG, 6, .inr (.inr (.inr (.inr f)))))], (k_Hr W nx), wO_42, wA_42, wB_42, wL_42, wO, wA, wB, wL] rfl ?_
    refine q_aload_n C dX1_save_73 74 0 rfl rfl ?_
    refine q_aload_n C dX1_save_74 75 0 rfl rfl ?_
    refine q_get (k := 0) (j := 0) (f := 2) C hinX1 f21 (fun _ h => h) (by decide) rfl dX1_save_75 78 rfl rfl rfl rfl ?_
    refine q_aload_n C dX1_save_78 79 0 rfl rfl ?_
    refine q_get (k := 0) (j := 0) (f := 0) C hinX1 f11 (fun _ h => h) (by decide) rfl dX1_save_79 82 rfl rfl rfl rfl ?_
    refine q_alen (k := 0) (j := 1) (v := nI 6) C dX1_save_82 83 rfl rfl rfl hcG rfl ?_
    refine q_icmp_ge C dX1_save_83 86 95 rfl (by decide) (nI_leI (by omega) (by omega)) (fun h83 => ?_) (fun h83 => ?_)
    · refine q_aload_n C dX1_save_95 96 0 rfl rfl ?_
      refine q_get (k := 0) (j := 0) (f := 0) C hinX1 f11 (fun _ h => h) (by decide) rfl dX1_save_96 99 rfl rfl rfl rfl ?_
      refine q_alen (k := 0) (j := 1) (v := nI 6) C dX1_save_99 100 rfl rfl rfl hcG rfl ?_
      refine q_put (k := 0) (j := 0) (f := 2) C hinX1 tyX1 tyX1_ok nmX1 f21 (fun _ h => h) (by decide) rfl rfl (tyX1_ok 2 (by decide)) rfl rfl dX1_save_100 103 rfl rfl rfl (Nat.le_of_ble_eq_true rfl) [[(h0, .inr (1, [.ref aG, .int (nI (nx + 1)), .int (nI 6)])), (aG, .inl (cG, 6, .inr (.inr (.inr (.inr f)))))], (k_Hr W nx), wO_42, wA_42, wB_42, wL_42, wO, wA, wB, wL] rfl ?_
      refine q_prm (Rs' := [([(h0, .inr (1, [.ref aG, .int (nI (nx + 1)), .int (nI 6)])), (aG, .inl (cG, 6, .inr (.inr (.inr (.inr f)))))] ++ k_flat (fun j => if j = nx then [wO_42, wA_42, wB_42, wL_42].flatten else W j) 6), wO, wA, wB, wL]) (k_H_in (i := nx) (by omega)) ?_
      exact q_vret C B dX1_save_103 rfl rfl (fun t0 ht0 => ⟨rfl, _, ⟨aG, _, f, g, _, _, k_Hat_sav (S := (bx, at0, ln, sc)) hat (by first | rw [if_pos (by omega)] | rw [if_neg (by omega)]), k_H6_rep h6 (k_isS_mk hwO_42 hwA_42 hwB_42 hwL_42), by rw [k_sav_len]; first | rw [if_pos (by omega)] ; rfl | rw [if_neg (by omega), if_pos (by omega)]; rfl⟩, rfl⟩)
    · refine q_aload_n C dX1_save_86 87 0 rfl rfl ?_
      refine q_get (k := 0) (j := 0) (f := 2) C hinX1 f21 (fun _ h => h) (by decide) rfl dX1_save_87 90 rfl rfl rfl rfl ?_
      refine q_iconst (v := nI 1) C dX1_save_90 91 rfl (by decide) ?_
      refine q_iadd (v := nI (sv.length + 1)) C dX1_save_91 92 rfl (q_nadd (by omega)) ?_
      refine q_goto C dX1_save_92 100 (by decide) ?_
      refine q_put (k := 0) (j := 0) (f := 2) C hinX1 tyX1 tyX1_ok nmX1 f21 (fun _ h => h) (by decide) rfl rfl (tyX1_ok 2 (by decide)) rfl rfl dX1_save_100 103 rfl rfl rfl (Nat.le_of_ble_eq_true rfl) [[(h0, .inr (1, [.ref aG, .int (nI (nx + 1)), .int (nI (sv.length + 1))])), (aG, .inl (cG, 6, .inr (.inr (.inr (.inr f)))))], (k_Hr W nx), wO_42, wA_42, wB_42, wL_42, wO, wA, wB, wL] rfl ?_
      refine q_prm (Rs' := [([(h0, .inr (1, [.ref aG, .int (nI (nx + 1)), .int (nI (sv.length + 1))])), (aG, .inl (cG, 6, .inr (.inr (.inr (.inr f)))))] ++ k_flat (fun j => if j = nx then [wO_42, wA_42, wB_42, wL_42].flatten else W j) 6), wO, wA, wB, wL]) (k_H_in (i := nx) (by omega)) ?_
      exact q_vret C B dX1_save_103 rfl rfl (fun t0 ht0 => ⟨rfl, _, ⟨aG, _, f, g, _, _, k_Hat_sav (S := (bx, at0, ln, sc)) hat (by first | rw [if_pos (by omega)] | rw [if_neg (by omega)]), k_H6_rep h6 (k_isS_mk hwO_42 hwA_42 hwB_42 hwL_42), by rw [k_sav_len]; first | rw [if_pos (by omega)] ; rfl | rw [if_neg (by omega), if_pos (by omega)]; rfl⟩, rfl⟩)

set_option maxHeartbeats 400000 in
set_option maxRecDepth 100000 in
theorem c_X1_giveBack (l : Launch) {D : va_G} {tys : List (ClassId × FieldType)} {Z : (Nat → Prop) → State → Heap → Prop} (hZ : q_St Z) {cI : ClassId} (hI : tys[0]? = some (cI, .int)) {cG : ClassId} (hG : tys[1]? = some (cG, .object "SortCases$State")) (h0 : Nat) (sv : List k_S) (wH : va_W) (hH : k_isH cG cI h0 sv wH) (h1 : Nat) (aB : Nat) (aL : Nat) (aS : Nat) (sc : Nat → Int32) (wO : va_W) (hO : k_isO cI h1 aB aL aS sc wO) (wA : va_W) (hA : k_isA cI aS sc wA) (bx : k_Bx) (at0 : Nat) (wB : va_W) (hB : k_isB cI aB bx at0 wB) (ln : List (Nat × Nat)) (wL : va_W) (hL : k_isL cI aL ln wL) (hsv0 : 0 < sv.length) : q_Ct l D tys Z yX1_giveBack wsX1_giveBack ({ frames := 3, cells := 0, slots := 0, locals := 102 } : Room) 0 0 [.ref h0, .ref h1] [wH, wO, wA, wB, wL] (fun v0 R0 _ => v0 = none ∧ ∃ wH', k_isH cG cI h0 sv.dropLast wH' ∧ ∃ wO', k_isO cI h1 aB aL aS ((k_nw sv).2.2.2) wO' ∧ ∃ wA', k_isA cI aS ((k_nw sv).2.2.2) wA' ∧ ∃ wB', k_isB cI aB ((k_nw sv).1) ((k_nw sv).2.1) wB' ∧ ∃ wL', k_isL cI aL ((k_nw sv).2.2.1) wL' ∧ R0 = [wH', wO', wA', wB', wL']) := by
  have hcI := hI
  have hcG := hG
  refine q_ct (cc := cX1_giveBack) (maxL := 3) (ret := none) (own := RX1) (by decide) rfl hZ (Nat.le_of_ble_eq_true rfl) rfl ?_
  intro p9 e9 R s9 m9 args below meth c9 A Q C B
  have hts := C.2.2.2.2.1
  have hinX1 : ∀ w ∈ u_ws RX1 TX1 3, w ∈ wsX1_giveBack := by decide +kernel
  have f17 := hts (.fieldLink RX1 17 "SortCases$History" "next" "I") (by decide +kernel)
  have f11 := hts (.fieldLink RX1 11 "SortCases$History" "ring" "[LSortCases$State;") (by decide +kernel)
  have f21 := hts (.fieldLink RX1 21 "SortCases$History" "size" "I") (by decide +kernel)
  refine q_eqL (L' := [(0, .ref h0), (1, .ref h1)]) rfl ?_
  obtain ⟨aG, nx, f, g, T, W, hat, h6, rfl⟩ := hH
  have hl6 := hat.1
  have hnx := hat.2.1
  refine q_resp (Rs' := [[(h0, .inr (1, [.ref aG, .int (nI nx), .int (nI sv.length)])), (aG, .inl (cG, 6, .inr (.inr (.inr (.inr f)))))], (k_flat W 6), wO, wA, wB, wL]) k_fl2 ?_
  refine q_aload_n C dX1_giveBack_0 1 0 rfl rfl ?_
  refine q_get (k := 0) (j := 0) (f := 1) C hinX1 f17 (fun _ h => h) (by decide) rfl dX1_giveBack_1 4 rfl rfl rfl rfl ?_
  refine q_if_le C dX1_giveBack_4 7 16 rfl (by decide) (q_le0 (by omega)) (fun h4 => ?_) (fun h4 => ?_)
  · refine q_aload_n C dX1_giveBack_16 17 0 rfl rfl ?_
    refine q_get (k := 0) (j := 0) (f := 0) C hinX1 f11 (fun _ h => h) (by decide) rfl dX1_giveBack_17 20 rfl rfl rfl rfl ?_
    refine q_alen (k := 0) (j := 1) (v := nI 6) C dX1_giveBack_20 21 rfl rfl rfl hcG rfl ?_
    refine q_iconst (v := nI 1) C dX1_giveBack_21 22 rfl (by decide) ?_
    refine q_isub (v := nI 5) C dX1_giveBack_22 23 rfl (q_nsub (by omega) (by omega)) ?_
    refine q_istore_n C dX1_giveBack_23 24 rfl [(2, .int (nI 5)), (0, .ref h0), (1, .ref h1)] (by decide) rfl ?_
    obtain ⟨hat2, hlt6, hTn⟩ := k_Hat_pop (n2 := 5) hat hsv0 (by first | rw [if_pos (by omega)] | rw [if_neg (by omega)])
    obtain ⟨hfn, paB, paL, paS, pwO, pwA, pwB, pwL, phO, phA, phB, phL, hpw⟩ := h6 5 (by omega)
    refine q_resp (Rs' := [[(h0, .inr (1, [.ref aG, .int (nI nx), .int (nI sv.length)])), (aG, .inl (cG, 6, .inr (.inr (.inr (.inr f)))))] ++ k_flat W 6, wO, wA, wB, wL]) k_fl2.symm ?_
    refine q_prm (Rs' := [[(h0, .inr (1, [.ref aG, .int (nI nx), .int (nI sv.length)])), (aG, .inl (cG, 6, .inr (.inr (.inr (.inr f)))))], (k_Hr W 5), pwO, pwA, pwB, pwL, wO, wA, wB, wL]) (k_H_out (by omega) hpw) ?_
    refine q_aload_n C dX1_giveBack_24 25 1 rfl rfl ?_
    refine q_get (k := 0) (j := 0) (f := 2) C hinX1 f21 (fun _ h => h) (by decide) rfl dX1_giveBack_25 28 rfl rfl rfl rfl ?_
    refine q_if_le C dX1_giveBack_28 31 53 rfl (by decide) (q_le0 (by omega)) (fun h28 => False.elim (by first | omega | simp_all)) (fun h28 => ?_)
    refine q_iload_n C dX1_giveBack_31 32 0 rfl rfl ?_
    refine q_if_lt C dX1_giveBack_32 35 53 rfl (by decide) (q_lt0 (by omega)) (fun h32 => False.elim (by first | omega | simp_all)) (fun h32 => ?_)
    refine q_iload_n C dX1_giveBack_35 36 0 rfl rfl ?_
    refine q_aload_n C dX1_giveBack_36 37 1 rfl rfl ?_
    refine q_get (k := 0) (j := 0) (f := 0) C hinX1 f11 (fun _ h => h) (by decide) rfl dX1_giveBack_37 40 rfl rfl rfl rfl ?_
    refine q_alen (k := 0) (j := 1) (v := nI 6) C dX1_giveBack_40 41 rfl rfl rfl hcG rfl ?_
    refine q_icmp_ge C dX1_giveBack_41 44 53 rfl (by decide) (nI_leI (by omega) (by omega)) (fun h41 => False.elim (by first | omega | simp_all)) (fun h41 => ?_)
    refine q_aload_n C dX1_giveBack_44 45 1 rfl rfl ?_
    refine q_get (k := 0) (j := 0) (f := 0) C hinX1 f11 (fun _ h => h) (by decide) rfl dX1_giveBack_45 48 rfl rfl rfl rfl ?_
    refine q_iload_n C dX1_giveBack_48 49 0 rfl rfl ?_
    refine q_aldq (k := 0) (j := 1) (t0 := 1) (v := .ref ((g 5))) C dX1_giveBack_49 50 rfl rfl rfl hG 5 rfl (by omega) (by decide) (by rw [hfn]; rfl) ?_
    refine q_ifnonnull C dX1_giveBack_50 54 (by decide) ?_
    refine q_aload_n C dX1_giveBack_54 55 2 rfl rfl ?_
    refine q_aload_n C dX1_giveBack_55 56 1 rfl rfl ?_
    refine q_get (k := 0) (j := 0) (f := 0) C hinX1 f11 (fun _ h => h) (by decide) rfl dX1_giveBack_56 59 rfl rfl rfl rfl ?_
    refine q_iload_n C dX1_giveBack_59 60 0 rfl rfl ?_
    refine q_aldq (k := 0) (j := 1) (t0 := 1) (v := .ref ((g 5))) C dX1_giveBack_60 61 rfl rfl rfl hG 5 rfl (by omega) (by decide) (by rw [hfn]; rfl) ?_
    refine q_callV (k := 6) (ci := 3) (n := 1) (rest := []) (Rr := [[(h0, .inr (1, [.ref aG, .int (nI nx), .int (nI sv.length)])), (aG, .inl (cG, 6, .inr (.inr (.inr (.inr f)))))], (k_Hr W 5)]) C rfl (k_isO_recv hO) rfl (c_X4_copyFrom l hZ hI h1 aB aL aS sc wO hO wA hA bx at0 wB hB ln wL hL ((g 5)) paB paL paS ((T 5).2.2.2) pwO phO pwA phA ((T 5).1) ((T 5).2.1) pwB phB ((T 5).2.2.1) pwL phL) gX1_giveBack_X4_copyFrom rfl rfl rfl (by decide +kernel) B.1 ⟨Nat.le_of_ble_eq_true rfl, Nat.le_of_ble_eq_true rfl⟩ rfl rfl (Nat.le_of_ble_eq_true rfl) dX1_giveBack_61 ⟨(Nat.le_of_ble_eq_true rfl), (Nat.le_of_ble_eq_true rfl)⟩ [6, 7, 8, 9, 2, 3, 4, 5] [0, 1] (by decide : ([6, 7, 8, 9, 2, 3, 4, 5] ++ ([0, 1] : List Nat)).Perm (List.range 10)) rfl rfl 64 rfl (fun v0 R0 t0 ht0 hp0 => ?_)
    obtain ⟨rfl, wO_61, hwO_61, wA_61, hwA_61, wB_61, hwB_61, wL_61, hwL_61, rfl⟩ := hp0
    refine q_eqs (st' := []) rfl ?_
    refine q_reord [8, 9, 4, 5, 6, 7, 0, 1, 2, 3] (by decide : ([8, 9, 4, 5, 6, 7, 0, 1, 2, 3] : List Nat).Perm (List.range 10)) (Rs' := [[(h0, .inr (1, [.ref aG, .int (nI nx), .int (nI sv.length)])), (aG, .inl (cG, 6, .inr (.inr (.inr (.inr f)))))], (k_Hr W 5), pwO, pwA, pwB, pwL, wO_61, wA_61, wB_61, wL_61]) rfl rfl ?_
    refine q_aload_n C dX1_giveBack_64 65 1 rfl rfl ?_
    refine q_iload_n C dX1_giveBack_65 66 0 rfl rfl ?_
    refine q_put (k := 0) (j := 0) (f := 1) C hinX1 tyX1 tyX1_ok nmX1 f17 (fun _ h => h) (by decide) rfl rfl (tyX1_ok 1 (by decide)) rfl rfl dX1_giveBack_66 69 rfl rfl rfl (Nat.le_of_ble_eq_true rfl) [[(h0, .inr (1, [.ref aG, .int (nI 5), .int (nI sv.length)])), (aG, .inl (cG, 6, .inr (.inr (.inr (.inr f)))))], (k_Hr W 5), pwO, pwA, pwB, pwL, wO_61, wA_61, wB_61, wL_61] rfl ?_
    refine q_aload_n C dX1_giveBack_69 70 1 rfl rfl ?_
    refine q_dup C dX1_giveBack_70 71 rfl rfl ?_
    refine q_get (k := 0) (j := 0) (f := 2) C hinX1 f21 (fun _ h => h) (by decide) rfl dX1_giveBack_71 74 rfl rfl rfl rfl ?_
    refine q_iconst (v := nI 1) C dX1_giveBack_74 75 rfl (by decide) ?_
    refine q_isub (v := nI (sv.length - 1)) C dX1_giveBack_75 76 rfl (q_nsub (by omega) (by omega)) ?_
    refine q_put (k := 0) (j := 0) (f := 2) C hinX1 tyX1 tyX1_ok nmX1 f21 (fun _ h => h) (by decide) rfl rfl (tyX1_ok 2 (by decide)) rfl rfl dX1_giveBack_76 79 rfl rfl rfl (Nat.le_of_ble_eq_true rfl) [[(h0, .inr (1, [.ref aG, .int (nI 5), .int (nI (sv.length - 1))])), (aG, .inl (cG, 6, .inr (.inr (.inr (.inr f)))))], (k_Hr W 5), pwO, pwA, pwB, pwL, wO_61, wA_61, wB_61, wL_61] rfl ?_
    refine q_prm (Rs' := [([(h0, .inr (1, [.ref aG, .int (nI 5), .int (nI (sv.length - 1))])), (aG, .inl (cG, 6, .inr (.inr (.inr (.inr f)))))] ++ k_flat (fun j => if j = 5 then [pwO, pwA, pwB, pwL].flatten else W j) 6), wO_61, wA_61, wB_61, wL_61]) (k_H_in (i := 5) (by omega)) ?_
    exact q_vret C B dX1_giveBack_79 rfl rfl (fun t0 ht0 => ⟨rfl, _, ⟨aG, _, f, g, T, _, hat2, k_H6_same h6 (k_isS_mk (bx := (T 5).1) (at0 := (T 5).2.1) phO phA phB phL), by rw [List.length_dropLast]; rfl⟩, _, by rw [← hTn]; exact hwO_61, _, by rw [← hTn]; exact hwA_61, _, by rw [← hTn]; exact hwB_61, _, by rw [← hTn]; exact hwL_61, rfl⟩)
  · refine q_aload_n C dX1_giveBack_7 8 0 rfl rfl ?_
    refine q_get (k := 0) (j := 0) (f := 1) C hinX1 f17 (fun _ h => h) (by decide) rfl dX1_giveBack_8 11 rfl rfl rfl rfl ?_
    refine q_iconst (v := nI 1) C dX1_giveBack_11 12 rfl (by decide) ?_
    refine q_isub (v := nI (nx - 1)) C dX1_giveBack_12 13 rfl (q_nsub (by omega) (by omega)) ?_
    refine q_goto C dX1_giveBack_13 23 (by decide) ?_
    refine q_istore_n C dX1_giveBack_23 24 rfl [(2, .int (nI (nx - 1))), (0, .ref h0), (1, .ref h1)] (by decide) rfl ?_
    obtain ⟨hat2, hlt6, hTn⟩ := k_Hat_pop (n2 := (nx - 1)) hat hsv0 (by first | rw [if_pos (by omega)] | rw [if_neg (by omega)])
    obtain ⟨hfn, paB, paL, paS, pwO, pwA, pwB, pwL, phO, phA, phB, phL, hpw⟩ := h6 (nx - 1) (by omega)
    refine q_resp (Rs' := [[(h0, .inr (1, [.ref aG, .int (nI nx), .int (nI sv.length)])), (aG, .inl (cG, 6, .inr (.inr (.inr (.inr f)))))] ++ k_flat W 6, wO, wA, wB, wL]) k_fl2.symm ?_
    refine q_prm (Rs' := [[(h0, .inr (1, [.ref aG, .int (nI nx), .int (nI sv.length)])), (aG, .inl (cG, 6, .inr (.inr (.inr (.inr f)))))], (k_Hr W (nx - 1)), pwO, pwA, pwB, pwL, wO, wA, wB, wL]) (k_H_out (by omega) hpw) ?_
    refine q_aload_n C dX1_giveBack_24 25 1 rfl rfl ?_
    refine q_get (k := 0) (j := 0) (f := 2) C hinX1 f21 (fun _ h => h) (by decide) rfl dX1_giveBack_25 28 rfl rfl rfl rfl ?_
    refine q_if_le C dX1_giveBack_28 31 53 rfl (by decide) (q_le0 (by omega)) (fun h28 => False.elim (by first | omega | simp_all)) (fun h28 => ?_)
    refine q_iload_n C dX1_giveBack_31 32 0 rfl rfl ?_
    refine q_if_lt C dX1_giveBack_32 35 53 rfl (by decide) (q_lt0 (by omega)) (fun h32 => False.elim (by first | omega | simp_all)) (fun h32 => ?_)
    refine q_iload_n C dX1_giveBack_35 36 0 rfl rfl ?_
    refine q_aload_n C dX1_giveBack_36 37 1 rfl rfl ?_
    refine q_get (k := 0) (j := 0) (f := 0) C hinX1 f11 (fun _ h => h) (by decide) rfl dX1_giveBack_37 40 rfl rfl rfl rfl ?_
    refine q_alen (k := 0) (j := 1) (v := nI 6) C dX1_giveBack_40 41 rfl rfl rfl hcG rfl ?_
    refine q_icmp_ge C dX1_giveBack_41 44 53 rfl (by decide) (nI_leI (by omega) (by omega)) (fun h41 => False.elim (by first | omega | simp_all)) (fun h41 => ?_)
    refine q_aload_n C dX1_giveBack_44 45 1 rfl rfl ?_
    refine q_get (k := 0) (j := 0) (f := 0) C hinX1 f11 (fun _ h => h) (by decide) rfl dX1_giveBack_45 48 rfl rfl rfl rfl ?_
    refine q_iload_n C dX1_giveBack_48 49 0 rfl rfl ?_
    refine q_aldq (k := 0) (j := 1) (t0 := 1) (v := .ref ((g (nx - 1)))) C dX1_giveBack_49 50 rfl rfl rfl hG (nx - 1) rfl (by omega) (by decide) (by rw [hfn]; rfl) ?_
    refine q_ifnonnull C dX1_giveBack_50 54 (by decide) ?_
    refine q_aload_n C dX1_giveBack_54 55 2 rfl rfl ?_
    refine q_aload_n C dX1_giveBack_55 56 1 rfl rfl ?_
    refine q_get (k := 0) (j := 0) (f := 0) C hinX1 f11 (fun _ h => h) (by decide) rfl dX1_giveBack_56 59 rfl rfl rfl rfl ?_
    refine q_iload_n C dX1_giveBack_59 60 0 rfl rfl ?_
    refine q_aldq (k := 0) (j := 1) (t0 := 1) (v := .ref ((g (nx - 1)))) C dX1_giveBack_60 61 rfl rfl rfl hG (nx - 1) rfl (by omega) (by decide) (by rw [hfn]; rfl) ?_
    refine q_callV (k := 6) (ci := 3) (n := 1) (rest := []) (Rr := [[(h0, .inr (1, [.ref aG, .int (nI nx), .int (nI sv.length)])), (aG, .inl (cG, 6, .inr (.inr (.inr (.inr f)))))], (k_Hr W (nx - 1))]) C rfl (k_isO_recv hO) rfl (c_X4_copyFrom l hZ hI h1 aB aL aS sc wO hO wA hA bx at0 wB hB ln wL hL ((g (nx - 1))) paB paL paS ((T (nx - 1)).2.2.2) pwO phO pwA phA ((T (nx - 1)).1) ((T (nx - 1)).2.1) pwB phB ((T (nx - 1)).2.2.1) pwL phL) gX1_giveBack_X4_copyFrom rfl rfl rfl (by decide +kernel) B.1 ⟨Nat.le_of_ble_eq_true rfl, Nat.le_of_ble_eq_true rfl⟩ rfl rfl (Nat.le_of_ble_eq_true rfl) dX1_giveBack_61 ⟨(Nat.le_of_ble_eq_true rfl), (Nat.le_of_ble_eq_true rfl)⟩ [6, 7, 8, 9, 2, 3, 4, 5] [0, 1] (by decide : ([6, 7, 8, 9, 2, 3, 4, 5] ++ ([0, 1] : List Nat)).Perm (List.range 10)) rfl rfl 64 rfl (fun v0 R0 t0 ht0 hp0 => ?_)
    obtain ⟨rfl, wO_61, hwO_61, wA_61, hwA_61, wB_61, hwB_61, wL_61, hwL_61, rfl⟩ := hp0
    refine q_eqs (st' := []) rfl ?_
    refine q_reord [8, 9, 4, 5, 6, 7, 0, 1, 2, 3] (by decide : ([8, 9, 4, 5, 6, 7, 0, 1, 2, 3] : List Nat).Perm (List.range 10)) (Rs' := [[(h0, .inr (1, [.ref aG, .int (nI nx), .int (nI sv.length)])), (aG, .inl (cG, 6, .inr (.inr (.inr (.inr f)))))], (k_Hr W (nx - 1)), pwO, pwA, pwB, pwL, wO_61, wA_61, wB_61, wL_61]) rfl rfl ?_
    refine q_aload_n C dX1_giveBack_64 65 1 rfl rfl ?_
    refine q_iload_n C dX1_giveBack_65 66 0 rfl rfl ?_
    refine q_put (k := 0) (j := 0) (f := 1) C hinX1 tyX1 tyX1_ok nmX1 f17 (fun _ h => h) (by decide) rfl rfl (tyX1_ok 1 (by decide)) rfl rfl dX1_giveBack_66 69 rfl rfl rfl (Nat.le_of_ble_eq_true rfl) [[(h0, .inr (1, [.ref aG, .int (nI (nx - 1)), .int (nI sv.length)])), (aG, .inl (cG, 6, .inr (.inr (.inr (.inr f)))))], (k_Hr W (nx - 1)), pwO, pwA, pwB, pwL, wO_61, wA_61, wB_61, wL_61] rfl ?_
    refine q_aload_n C dX1_giveBack_69 70 1 rfl rfl ?_
    refine q_dup C dX1_giveBack_70 71 rfl rfl ?_
    refine q_get (k := 0) (j := 0) (f := 2) C hinX1 f21 (fun _ h => h) (by decide) rfl dX1_giveBack_71 74 rfl rfl rfl rfl ?_
    refine q_iconst (v := nI 1) C dX1_giveBack_74 75 rfl (by decide) ?_
    refine q_isub (v := nI (sv.length - 1)) C dX1_giveBack_75 76 rfl (q_nsub (by omega) (by omega)) ?_
    refine q_put (k := 0) (j := 0) (f := 2) C hinX1 tyX1 tyX1_ok nmX1 f21 (fun _ h => h) (by decide) rfl rfl (tyX1_ok 2 (by decide)) rfl rfl dX1_giveBack_76 79 rfl rfl rfl (Nat.le_of_ble_eq_true rfl) [[(h0, .inr (1, [.ref aG, .int (nI (nx - 1)), .int (nI (sv.length - 1))])), (aG, .inl (cG, 6, .inr (.inr (.inr (.inr f)))))], (k_Hr W (nx - 1)), pwO, pwA, pwB, pwL, wO_61, wA_61, wB_61, wL_61] rfl ?_
    refine q_prm (Rs' := [([(h0, .inr (1, [.ref aG, .int (nI (nx - 1)), .int (nI (sv.length - 1))])), (aG, .inl (cG, 6, .inr (.inr (.inr (.inr f)))))] ++ k_flat (fun j => if j = (nx - 1) then [pwO, pwA, pwB, pwL].flatten else W j) 6), wO_61, wA_61, wB_61, wL_61]) (k_H_in (i := (nx - 1)) (by omega)) ?_
    exact q_vret C B dX1_giveBack_79 rfl rfl (fun t0 ht0 => ⟨rfl, _, ⟨aG, _, f, g, T, _, hat2, k_H6_same h6 (k_isS_mk (bx := (T (nx - 1)).1) (at0 := (T (nx - 1)).2.1) phO phA phB phL), by rw [List.length_dropLast]; rfl⟩, _, by rw [← hTn]; exact hwO_61, _, by rw [← hTn]; exact hwA_61, _, by rw [← hTn]; exact hwB_61, _, by rw [← hTn]; exact hwL_61, rfl⟩)

