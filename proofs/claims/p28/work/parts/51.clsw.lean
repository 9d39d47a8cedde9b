set_option maxHeartbeats 400000 in
set_option maxRecDepth 100000 in
theorem c_X6_init (l : Launch) {D : va_G} {tys : List (ClassId × FieldType)} {Z : (Nat → Prop) → State → Heap → Prop} (hZ : q_St Z) {cI : ClassId} (hI : tys[0]? = some (cI, .int)) (hN : q_Ns Z) {cG : ClassId} (hG : tys[1]? = some (cG, .object "SortCases$State")) (hAO : q_Na Z) (h0 : Nat) (w : va_W) (h : k_i9 cI h0 w) : q_Ct l D tys Z yX6_init wsX6_init ({ frames := 5, cells := 71, slots := 3654, locals := 162 } : Room) 71 3654 [.ref h0] [w] (fun v0 R0 _ => v0 = none ∧ ∃ aO aY aN aT aK wX wS wH wN wT wK, k_isX cI h0 aO aY aN (nI 0) aT aK wX ∧ k_isS cI aO k_S0 wS ∧ k_isH cG cI aY [] wH ∧ k_isS cI aN k_S0 wN ∧ k_isT cI aT [] wT ∧ k_isB cI aK (k_bi 12 0) 0 wK ∧ R0 = [wX, wS, wH, wN, wT, wK]) := by
  have hcI := hI
  have hcG := hG
  refine q_ct (cc := cX6_init) (maxL := 1) (ret := none) (own := RX6) (by decide) rfl hZ (Nat.le_of_ble_eq_true rfl) rfl ?_
  intro p9 e9 R s9 m9 args below meth c9 A Q C B
  have hts := C.2.2.2.2.1
  have oi1 := hts (.methodLink RX6 3 objectInit) (by decide +kernel)
  have oi2 := hts (.instanceMethod objectInit) (by decide +kernel)
  have oi3 := hts (.code objectInit ⟨#[0xb1]⟩ 1 none) (by decide +kernel)
  have hinX4 : ∀ w ∈ u_ws RX4 TX4 11, w ∈ wsX6_init := by decide +kernel
  have cl9 := hts (.classLink RX6 9 RX4) (by decide +kernel)
  have instX4 := hts (.instantiable RX4 11) (by decide +kernel)
  have iniX4 := hts (.initialized RX4) (by decide +kernel)
  have nst_X4_init := q_nst hN C (by decide +kernel : Cond.methodLinkNest "SortCases" 11 yX4_init "SortCases" ∈ q_nest)
  have ins_X4_init := hts (.instanceMethod yX4_init) (by decide +kernel)
  have hinX6 : ∀ w ∈ u_ws RX6 TX6 6, w ∈ wsX6_init := by decide +kernel
  have f12 := hts (.fieldLink RX6 12 "SortCases" "state" "LSortCases$State;") (by decide +kernel)
  have hinX1 : ∀ w ∈ u_ws RX1 TX1 3, w ∈ wsX6_init := by decide +kernel
  have cl16 := hts (.classLink RX6 16 RX1) (by decide +kernel)
  have instX1 := hts (.instantiable RX1 3) (by decide +kernel)
  have iniX1 := hts (.initialized RX1) (by decide +kernel)
  have mlk_X1_init := hts (.methodLink RX6 18 yX1_init) (by decide +kernel)
  have ins_X1_init := hts (.instanceMethod yX1_init) (by decide +kernel)
  have f19 := hts (.fieldLink RX6 19 "SortCases" "history" "LSortCases$History;") (by decide +kernel)
  have f23 := hts (.fieldLink RX6 23 "SortCases" "snapshot" "LSortCases$State;") (by decide +kernel)
  have f26 := hts (.fieldLink RX6 26 "SortCases" "hasSnapshot" "Z") (by decide +kernel)
  have hinX5 : ∀ w ∈ u_ws RX5 TX5 2, w ∈ wsX6_init := by decide +kernel
  have cl30 := hts (.classLink RX6 30 RX5) (by decide +kernel)
  have instX5 := hts (.instantiable RX5 2) (by decide +kernel)
  have iniX5 := hts (.initialized RX5) (by decide +kernel)
  have nst_X5_init := q_nst hN C (by decide +kernel : Cond.methodLinkNest "SortCases" 32 yX5_init "SortCases" ∈ q_nest)
  have ins_X5_init := hts (.instanceMethod yX5_init) (by decide +kernel)
  have f33 := hts (.fieldLink RX6 33 "SortCases" "text" "LSortCases$Text;") (by decide +kernel)
  have hinX0 : ∀ w ∈ u_ws RX0 TX0 3, w ∈ wsX6_init := by decide +kernel
  have cl37 := hts (.classLink RX6 37 RX0) (by decide +kernel)
  have instX0 := hts (.instantiable RX0 3) (by decide +kernel)
  have iniX0 := hts (.initialized RX0) (by decide +kernel)
  have mlk_X0_init := hts (.methodLink RX6 39 yX0_init) (by decide +kernel)
  have ins_X0_init := hts (.instanceMethod yX0_init) (by decide +kernel)
  have f40 := hts (.fieldLink RX6 40 "SortCases" "trial" "LSortCases$Boxes;") (by decide +kernel)
  refine q_eqL (L' := [(0, .ref h0)]) rfl ?_
  obtain rfl := h
  refine q_aload_n C dX6_init_0 1 0 rfl rfl ?_
  refine q_objInit C oi1 oi2 oi3 B.1 (Nat.le_of_ble_eq_true rfl) (Nat.le_of_ble_eq_true rfl) dX6_init_1 4 rfl ?_
  refine q_aload_n C dX6_init_4 5 0 rfl rfl ?_
  refine q_new (ci := 3) (fs := [.null, .null, .null, .int 0, .int 0, .int 0, .int 0, .int 0, .int 0, .int 0, .int 0]) C hinX4 tyX4 tyX4_ok cl9 instX4 iniX4 rfl (by intro j hj; match j, hj with | 0, _ => rfl | 1, _ => rfl | 2, _ => rfl | 3, _ => rfl | 4, _ => rfl | 5, _ => rfl | 6, _ => rfl | 7, _ => rfl | 8, _ => rfl | 9, _ => rfl | 10, _ => rfl) B.1 (Nat.le_of_ble_eq_true rfl) (Nat.le_of_ble_eq_true rfl) dX6_init_5 8 rfl (fun q5 => ?_)
  have hn5 : k_i4 cI q5 [(q5, .inr (3, [.null, .null, .null, .int 0, .int 0, .int 0, .int 0, .int 0, .int 0, .int 0, .int 0]))] := rfl
  refine q_dup C dX6_init_8 9 rfl rfl ?_
  refine q_callIN (n := 0) (rest := [.ref q5, .ref h0]) (Rr := [[(h0, .inr (5, [.null, .null, .null, .int 0, .null, .null]))]]) C (c_X4_init_s l hZ hI hN q5 ([(q5, .inr (3, [.null, .null, .null, .int 0, .int 0, .int 0, .int 0, .int 0, .int 0, .int 0, .int 0]))]) hn5) gX6_init_X4_init_n11 rfl rfl rfl nst_X4_init iniX4 rfl (ins_X4_init) (by decide +kernel) B.1 ⟨Nat.le_of_ble_eq_true rfl, Nat.le_of_ble_eq_true rfl⟩ rfl rfl (Nat.le_of_ble_eq_true rfl) dX6_init_9 ⟨(Nat.le_of_ble_eq_true rfl), (Nat.le_of_ble_eq_true rfl)⟩ [1] [0] (by decide : ([1] ++ ([0] : List Nat)).Perm (List.range 2)) rfl rfl 12 rfl (fun v0 R0 t0 ht0 hp0 => ?_)
  obtain ⟨rfl, wn9, hwn9, rfl⟩ := hp0
  refine q_eqs (st' := [.ref q5, .ref h0]) rfl ?_
  refine q_reord [1, 0] (by decide : ([1, 0] : List Nat).Perm (List.range 2)) (Rs' := [[(h0, .inr (5, [.null, .null, .null, .int 0, .null, .null]))], wn9]) rfl rfl ?_
  refine q_putF (k := 0) (j := 0) (f := 0) C hinX6 tyX6 tyX6_ok nmX6 f12 (fun _ h => h) (by decide) rfl rfl B.2.2.2.2.2 rfl (tyX6_ok 0 (by decide)) rfl rfl dX6_init_12 15 rfl rfl rfl (Nat.le_of_ble_eq_true rfl) [[(h0, .inr (5, [.ref q5, .null, .null, .int 0, .null, .null]))], wn9] rfl ?_
  refine q_aload_n C dX6_init_15 16 0 rfl rfl ?_
  refine q_new (ci := 1) (fs := [.null, .int 0, .int 0]) C hinX1 tyX1 tyX1_ok cl16 instX1 iniX1 rfl (by intro j hj; match j, hj with | 0, _ => rfl | 1, _ => rfl | 2, _ => rfl) B.1 (Nat.le_of_ble_eq_true rfl) (Nat.le_of_ble_eq_true rfl) dX6_init_16 19 rfl (fun q16 => ?_)
  have hn16 : k_i1 cI q16 [(q16, .inr (1, [.null, .int 0, .int 0]))] := rfl
  refine q_dup C dX6_init_19 20 rfl rfl ?_
  refine q_callI (n := 0) (rest := [.ref q16, .ref h0]) (Rr := [[(h0, .inr (5, [.ref q5, .null, .null, .int 0, .null, .null]))], wn9]) C (c_X1_init l hZ hI hN hG hAO q16 ([(q16, .inr (1, [.null, .int 0, .int 0]))]) hn16) gX6_init_X1_init rfl rfl rfl iniX1 mlk_X1_init (ins_X1_init) rfl (by decide +kernel) B.1 ⟨Nat.le_of_ble_eq_true rfl, Nat.le_of_ble_eq_true rfl⟩ rfl rfl (Nat.le_of_ble_eq_true rfl) dX6_init_20 ⟨(Nat.le_of_ble_eq_true rfl), (Nat.le_of_ble_eq_true rfl)⟩ [2] [0, 1] (by decide : ([2] ++ ([0, 1] : List Nat)).Perm (List.range 3)) rfl rfl 23 rfl (fun v0 R0 t0 ht0 hp0 => ?_)
  obtain ⟨rfl, wn20, hwn20, rfl⟩ := hp0
  refine q_eqs (st' := [.ref q16, .ref h0]) rfl ?_
  refine q_reord [1, 2, 0] (by decide : ([1, 2, 0] : List Nat).Perm (List.range 3)) (Rs' := [[(h0, .inr (5, [.ref q5, .null, .null, .int 0, .null, .null]))], wn9, wn20]) rfl rfl ?_
  refine q_putF (k := 0) (j := 0) (f := 1) C hinX6 tyX6 tyX6_ok nmX6 f19 (fun _ h => h) (by decide) rfl rfl B.2.2.2.2.2 rfl (tyX6_ok 1 (by decide)) rfl rfl dX6_init_23 26 rfl rfl rfl (Nat.le_of_ble_eq_true rfl) [[(h0, .inr (5, [.ref q5, .ref q16, .null, .int 0, .null, .null]))], wn9, wn20] rfl ?_
  refine q_aload_n C dX6_init_26 27 0 rfl rfl ?_
  refine q_new (ci := 3) (fs := [.null, .null, .null, .int 0, .int 0, .int 0, .int 0, .int 0, .int 0, .int 0, .int 0]) C hinX4 tyX4 tyX4_ok cl9 instX4 iniX4 rfl (by intro j hj; match j, hj with | 0, _ => rfl | 1, _ => rfl | 2, _ => rfl | 3, _ => rfl | 4, _ => rfl | 5, _ => rfl | 6, _ => rfl | 7, _ => rfl | 8, _ => rfl | 9, _ => rfl | 10, _ => rfl) B.1 (Nat.le_of_ble_eq_true rfl) (Nat.le_of_ble_eq_true rfl) dX6_init_27 30 rfl (fun q27 => ?_)
  have hn27 : k_i4 cI q27 [(q27, .inr (3, [.null, .null, .null, .int 0, .int 0, .int 0, .int 0, .int 0, .int 0, .int 0, .int 0]))] := rfl
  refine q_dup C dX6_init_30 31 rfl rfl ?_
  refine q_callIN (n := 0) (rest := [.ref q27, .ref h0]) (Rr := [[(h0, .inr (5, [.ref q5, .ref q16, .null, .int 0, .null, .null]))], wn9, wn20]) C (c_X4_init_s l hZ hI hN q27 ([(q27, .inr (3, [.null, .null, .null, .int 0, .int 0, .int 0, .int 0, .int 0, .int 0, .int 0, .int 0]))]) hn27) gX6_init_X4_init_n11 rfl rfl rfl nst_X4_init iniX4 rfl (ins_X4_init) (by decide +kernel) B.1 ⟨Nat.le_of_ble_eq_true rfl, Nat.le_of_ble_eq_true rfl⟩ rfl rfl (Nat.le_of_ble_eq_true rfl) dX6_init_31 ⟨(Nat.le_of_ble_eq_true rfl), (Nat.le_of_ble_eq_true rfl)⟩ [3] [0, 1, 2] (by decide : ([3] ++ ([0, 1, 2] : List Nat)).Perm (List.range 4)) rfl rfl 34 rfl (fun v0 R0 t0 ht0 hp0 => ?_)
  obtain ⟨rfl, wn31, hwn31, rfl⟩ := hp0
  refine q_eqs (st' := [.ref q27, .ref h0]) rfl ?_
  refine q_reord [1, 2, 3, 0] (by decide : ([1, 2, 3, 0] : List Nat).Perm (List.range 4)) (Rs' := [[(h0, .inr (5, [.ref q5, .ref q16, .null, .int 0, .null, .null]))], wn9, wn20, wn31]) rfl rfl ?_
  refine q_putF (k := 0) (j := 0) (f := 2) C hinX6 tyX6 tyX6_ok nmX6 f23 (fun _ h => h) (by decide) rfl rfl B.2.2.2.2.2 rfl (tyX6_ok 2 (by decide)) rfl rfl dX6_init_34 37 rfl rfl rfl (Nat.le_of_ble_eq_true rfl) [[(h0, .inr (5, [.ref q5, .ref q16, .ref q27, .int 0, .null, .null]))], wn9, wn20, wn31] rfl ?_
  refine q_aload_n C dX6_init_37 38 0 rfl rfl ?_
  refine q_iconst (v := nI 0) C dX6_init_38 39 rfl (by decide) ?_
  refine q_put (k := 0) (j := 0) (f := 3) C hinX6 tyX6 tyX6_ok nmX6 f26 (fun _ h => h) (by decide) rfl rfl (tyX6_ok 3 (by decide)) rfl rfl dX6_init_39 42 rfl rfl rfl (Nat.le_of_ble_eq_true rfl) [[(h0, .inr (5, [.ref q5, .ref q16, .ref q27, .int (nI 0), .null, .null]))], wn9, wn20, wn31] rfl ?_
  refine q_aload_n C dX6_init_42 43 0 rfl rfl ?_
  refine q_new (ci := 4) (fs := [.null, .int 0]) C hinX5 tyX5 tyX5_ok cl30 instX5 iniX5 rfl (by intro j hj; match j, hj with | 0, _ => rfl | 1, _ => rfl) B.1 (Nat.le_of_ble_eq_true rfl) (Nat.le_of_ble_eq_true rfl) dX6_init_43 46 rfl (fun q43 => ?_)
  have hn43 : k_i5 cI q43 [(q43, .inr (4, [.null, .int 0]))] := rfl
  refine q_dup C dX6_init_46 47 rfl rfl ?_
  refine q_callIN (n := 0) (rest := [.ref q43, .ref h0]) (Rr := [[(h0, .inr (5, [.ref q5, .ref q16, .ref q27, .int (nI 0), .null, .null]))], wn9, wn20, wn31]) C (c_X5_init l hZ hI q43 ([(q43, .inr (4, [.null, .int 0]))]) hn43) gX6_init_X5_init_n32 rfl rfl rfl nst_X5_init iniX5 rfl (ins_X5_init) (by decide +kernel) B.1 ⟨Nat.le_of_ble_eq_true rfl, Nat.le_of_ble_eq_true rfl⟩ rfl rfl (Nat.le_of_ble_eq_true rfl) dX6_init_47 ⟨(Nat.le_of_ble_eq_true rfl), (Nat.le_of_ble_eq_true rfl)⟩ [4] [0, 1, 2, 3] (by decide : ([4] ++ ([0, 1, 2, 3] : List Nat)).Perm (List.range 5)) rfl rfl 50 rfl (fun v0 R0 t0 ht0 hp0 => ?_)
  obtain ⟨rfl, wn47, hwn47, rfl⟩ := hp0
  refine q_eqs (st' := [.ref q43, .ref h0]) rfl ?_
  refine q_reord [1, 2, 3, 4, 0] (by decide : ([1, 2, 3, 4, 0] : List Nat).Perm (List.range 5)) (Rs' := [[(h0, .inr (5, [.ref q5, .ref q16, .ref q27, .int (nI 0), .null, .null]))], wn9, wn20, wn31, wn47]) rfl rfl ?_
  refine q_putF (k := 0) (j := 0) (f := 4) C hinX6 tyX6 tyX6_ok nmX6 f33 (fun _ h => h) (by decide) rfl rfl B.2.2.2.2.2 rfl (tyX6_ok 4 (by decide)) rfl rfl dX6_init_50 53 rfl rfl rfl (Nat.le_of_ble_eq_true rfl) [[(h0, .inr (5, [.ref q5, .ref q16, .ref q27, .int (nI 0), .ref q43, .null]))], wn9, wn20, wn31, wn47] rfl ?_
  refine q_aload_n C dX6_init_53 54 0 rfl rfl ?_
  refine q_new (ci := 0) (fs := [.null, .null, .int 0]) C hinX0 tyX0 tyX0_ok cl37 instX0 iniX0 rfl (by intro j hj; match j, hj with | 0, _ => rfl | 1, _ => rfl | 2, _ => rfl) B.1 (Nat.le_of_ble_eq_true rfl) (Nat.le_of_ble_eq_true rfl) dX6_init_54 57 rfl (fun q54 => ?_)
  have hn54 : k_i0 cI q54 [(q54, .inr (0, [.null, .null, .int 0]))] := rfl
  refine q_dup C dX6_init_57 58 rfl rfl ?_
  refine q_callI (n := 0) (rest := [.ref q54, .ref h0]) (Rr := [[(h0, .inr (5, [.ref q5, .ref q16, .ref q27, .int (nI 0), .ref q43, .null]))], wn9, wn20, wn31, wn47]) C (c_X0_init l hZ hI q54 ([(q54, .inr (0, [.null, .null, .int 0]))]) hn54) gX6_init_X0_init rfl rfl rfl iniX0 mlk_X0_init (ins_X0_init) rfl (by decide +kernel) B.1 ⟨Nat.le_of_ble_eq_true rfl, Nat.le_of_ble_eq_true rfl⟩ rfl rfl (Nat.le_of_ble_eq_true rfl) dX6_init_58 ⟨(Nat.le_of_ble_eq_true rfl), (Nat.le_of_ble_eq_true rfl)⟩ [5] [0, 1, 2, 3, 4] (by decide : ([5] ++ ([0, 1, 2, 3, 4] : List Nat)).Perm (List.range 6)) rfl rfl 61 rfl (fun v0 R0 t0 ht0 hp0 => ?_)
  obtain ⟨rfl, wn58, hwn58, rfl⟩ := hp0
  refine q_eqs (st' := [.ref q54, .ref h0]) rfl ?_
  refine q_reord [1, 2, 3, 4, 5, 0] (by decide : ([1, 2, 3, 4, 5, 0] : List Nat).Perm (List.range 6)) (Rs' := [[(h0, .inr (5, [.ref q5, .ref q16, .ref q27, .int (nI 0), .ref q43, .null]))], wn9, wn20, wn31, wn47, wn58]) rfl rfl ?_
  refine q_putF (k := 0) (j := 0) (f := 5) C hinX6 tyX6 tyX6_ok nmX6 f40 (fun _ h => h) (by decide) rfl rfl B.2.2.2.2.2 rfl (tyX6_ok 5 (by decide)) rfl rfl dX6_init_61 64 rfl rfl rfl (Nat.le_of_ble_eq_true rfl) [[(h0, .inr (5, [.ref q5, .ref q16, .ref q27, .int (nI 0), .ref q43, .ref q54]))], wn9, wn20, wn31, wn47, wn58] rfl ?_
  exact q_vret C B dX6_init_64 rfl rfl (fun t0 ht0 => ⟨rfl, _, _, _, _, _, _, _, _, _, _, _, rfl, hwn9, hwn20, hwn31, hwn47, hwn58, rfl⟩)

