set_option maxHeartbeats 400000 in
set_option maxRecDepth 100000 in
theorem c_X6_set_c (l : Launch) {D : va_G} {tys : List (ClassId × FieldType)} {Z : (Nat → Prop) → State → Heap → Prop} (hZ : q_St Z) {cI : ClassId} (hI : tys[0]? = some (cI, .int)) (hN : q_Ns Z) {cG : ClassId} (hG : tys[1]? = some (cG, .object "SortCases$State")) (h0 : Nat) (aO : Nat) (aY : Nat) (aN : Nat) (hsn : Int32) (aT : Nat) (aK : Nat) (wX : va_W) (hX : k_isX cI h0 aO aY aN hsn aT aK wX) (aB : Nat) (aL : Nat) (aS : Nat) (sc : Nat → Int32) (wO : va_W) (hO : k_isO cI aO aB aL aS sc wO) (wA : va_W) (hA : k_isA cI aS sc wA) (bx : k_Bx) (at0 : Nat) (wB : va_W) (hB : k_isB cI aB bx at0 wB) (ln : List (Nat × Nat)) (wL : va_W) (hL : k_isL cI aL ln wL) (sv : List k_S) (wH : va_W) (hH : k_isH cG cI aY sv wH) (c : Nat) (hc : c < 12) (hw0 : k_wn bx ln sc c = 0) (hsw : k_Sw (bx, at0, ln, sc)) : q_Ct l D tys Z yX6_set wsX6_set ({ frames := 5, cells := 0, slots := 0, locals := 162 } : Room) 0 0 [.ref h0, .int (nI c)] [wX, wO, wA, wB, wL, wH] (fun v0 R0 _ => v0 = some (.int (nI (k_x bx c))) ∧ ∃ wO', k_isO cI aO aB aL aS ((k_set (bx, at0, ln, sc) c).2.2.2) wO' ∧ ∃ wA', k_isA cI aS ((k_set (bx, at0, ln, sc) c).2.2.2) wA' ∧ ∃ wB', k_isB cI aB ((k_set (bx, at0, ln, sc) c).1) ((k_set (bx, at0, ln, sc) c).2.1) wB' ∧ ∃ wL', k_isL cI aL (ln ++ [(k_x bx c, c)]) wL' ∧ ∃ wH', k_isH cG cI aY ((k_sav sv (bx, at0, ln, sc))) wH' ∧ R0 = [wX, wO', wA', wB', wL', wH']) := by
  have hcI := hI
  have hcG := hG
  refine q_ct (cc := cX6_set) (maxL := 2) (ret := (some .int)) (own := RX6) (by decide) rfl hZ (Nat.le_of_ble_eq_true rfl) rfl ?_
  intro p9 e9 R s9 m9 args below meth c9 A Q C B
  have hts := C.2.2.2.2.1
  have hinX6 : ∀ w ∈ u_ws RX6 TX6 6, w ∈ wsX6_set := by decide +kernel
  have f12 := hts (.fieldLink RX6 12 "SortCases" "state" "LSortCases$State;") (by decide +kernel)
  have f19 := hts (.fieldLink RX6 19 "SortCases" "history" "LSortCases$History;") (by decide +kernel)
  refine q_eqL (L' := [(0, .ref h0), (1, .int (nI c))]) rfl ?_
  refine q_iload_n C dX6_set_0 1 1 rfl rfl ?_
  refine q_callS (n := 1) (rest := []) (Rr := [wX, wO, wA, wB, wL, wH]) C (c_X6_isSort l hZ hI (nI c)) gX6_set_X6_isSort rfl rfl rfl (by decide +kernel) B.1 ⟨Nat.le_of_ble_eq_true rfl, Nat.le_of_ble_eq_true rfl⟩ rfl rfl (Nat.le_of_ble_eq_true rfl) dX6_set_1 ⟨(Nat.le_of_ble_eq_true rfl), (Nat.le_of_ble_eq_true rfl)⟩ [] [0, 1, 2, 3, 4, 5] (by decide : ([] ++ ([0, 1, 2, 3, 4, 5] : List Nat)).Perm (List.range 6)) rfl rfl 4 rfl (fun v0 R0 t0 ht0 hp0 => ?_)
  obtain ⟨rfl, rfl⟩ := hp0
  refine q_eqs (st' := [.int (q_b (decide (0 ≤ (nI c) ∧ (nI c) < 12)))]) rfl ?_
  refine q_eqR (Rs' := [wX, wO, wA, wB, wL, wH]) rfl ?_
  refine q_if_ne (P := ¬ (0 ≤ (nI c) ∧ (nI c) < 12)) C dX6_set_4 7 17 rfl (by decide) q_bd0 (fun h4 => ?_) (fun h4 => False.elim (h4 (k_ss (by omega))))
  refine q_aload_n C dX6_set_17 18 0 rfl rfl ?_
  obtain rfl := hX
  have hXox1 : k_isX cI h0 aO aY aN hsn aT aK [(h0, .inr (5, [.ref aO, .ref aY, .ref aN, .int hsn, .ref aT, .ref aK]))] := rfl
  refine q_get (k := 0) (j := 0) (f := 0) C hinX6 f12 (fun _ h => h) (by decide) rfl dX6_set_18 21 rfl rfl rfl rfl ?_
  refine q_iload_n C dX6_set_21 22 1 rfl rfl ?_
  refine q_callV (k := 1) (ci := 3) (n := 1) (rest := []) (Rr := [[(h0, .inr (5, [.ref aO, .ref aY, .ref aN, .int hsn, .ref aT, .ref aK]))], wH]) C rfl (k_isO_recv hO) rfl (c_X4_whyNotSet l hZ hI hN aO aB aL aS sc wO hO wA hA bx at0 wB hB ln wL hL c (by omega)) gX6_set_X4_whyNotSet rfl rfl rfl (by decide +kernel) B.1 ⟨Nat.le_of_ble_eq_true rfl, Nat.le_of_ble_eq_true rfl⟩ rfl rfl (Nat.le_of_ble_eq_true rfl) dX6_set_22 ⟨(Nat.le_of_ble_eq_true rfl), (Nat.le_of_ble_eq_true rfl)⟩ [1, 2, 3, 4] [0, 5] (by decide : ([1, 2, 3, 4] ++ ([0, 5] : List Nat)).Perm (List.range 6)) rfl rfl 25 rfl (fun v0 R0 t0 ht0 hp0 => ?_)
  obtain ⟨rfl, rfl⟩ := hp0
  refine q_eqs (st' := [.int (nI (k_wn bx ln sc c))]) rfl ?_
  refine q_reord [4, 0, 1, 2, 3, 5] (by decide : ([4, 0, 1, 2, 3, 5] : List Nat).Perm (List.range 6)) (Rs' := [[(h0, .inr (5, [.ref aO, .ref aY, .ref aN, .int hsn, .ref aT, .ref aK]))], wO, wA, wB, wL, wH]) rfl rfl ?_
  refine q_if_eq C dX6_set_25 28 38 rfl (by decide) (q_eq0 (by omega)) (fun h25 => ?_) (fun h25 => False.elim (by first | omega | simp_all))
  refine q_aload_n C dX6_set_38 39 0 rfl rfl ?_
  refine q_get (k := 0) (j := 0) (f := 1) C hinX6 f19 (fun _ h => h) (by decide) rfl dX6_set_39 42 rfl rfl rfl rfl ?_
  refine q_aload_n C dX6_set_42 43 0 rfl rfl ?_
  refine q_get (k := 0) (j := 0) (f := 0) C hinX6 f12 (fun _ h => h) (by decide) rfl dX6_set_43 46 rfl rfl rfl rfl ?_
  refine q_callV (k := 5) (ci := 1) (n := 1) (rest := []) (Rr := [[(h0, .inr (5, [.ref aO, .ref aY, .ref aN, .int hsn, .ref aT, .ref aK]))]]) C rfl (k_isH_recv hH) rfl (c_X1_save l hZ hI hG aY sv wH hH aO aB aL aS sc wO hO wA hA bx at0 wB hB ln wL hL) gX6_set_X1_save rfl rfl rfl (by decide +kernel) B.1 ⟨Nat.le_of_ble_eq_true rfl, Nat.le_of_ble_eq_true rfl⟩ rfl rfl (Nat.le_of_ble_eq_true rfl) dX6_set_46 ⟨(Nat.le_of_ble_eq_true rfl), (Nat.le_of_ble_eq_true rfl)⟩ [5, 1, 2, 3, 4] [0] (by decide : ([5, 1, 2, 3, 4] ++ ([0] : List Nat)).Perm (List.range 6)) rfl rfl 49 rfl (fun v0 R0 t0 ht0 hp0 => ?_)
  obtain ⟨rfl, wH_46, hwH_46, rfl⟩ := hp0
  refine q_eqs (st' := []) rfl ?_
  refine q_reord [5, 1, 2, 3, 4, 0] (by decide : ([5, 1, 2, 3, 4, 0] : List Nat).Perm (List.range 6)) (Rs' := [[(h0, .inr (5, [.ref aO, .ref aY, .ref aN, .int hsn, .ref aT, .ref aK]))], wO, wA, wB, wL, wH_46]) rfl rfl ?_
  refine q_aload_n C dX6_set_49 50 0 rfl rfl ?_
  refine q_get (k := 0) (j := 0) (f := 0) C hinX6 f12 (fun _ h => h) (by decide) rfl dX6_set_50 53 rfl rfl rfl rfl ?_
  refine q_iload_n C dX6_set_53 54 1 rfl rfl ?_
  refine q_callV (k := 1) (ci := 3) (n := 1) (rest := []) (Rr := [[(h0, .inr (5, [.ref aO, .ref aY, .ref aN, .int hsn, .ref aT, .ref aK]))], wH_46]) C rfl (k_isO_recv hO) rfl (c_X4_setLetter l hZ hI aO aB aL aS sc wO hO wA hA bx at0 wB hB ln wL hL c (by omega) (k_wn_inv hw0).1 (k_Sw_40 hsw hw0) hsw.2.2.1 hsw.2.2.2) gX6_set_X4_setLetter rfl rfl rfl (by decide +kernel) B.1 ⟨Nat.le_of_ble_eq_true rfl, Nat.le_of_ble_eq_true rfl⟩ rfl rfl (Nat.le_of_ble_eq_true rfl) dX6_set_54 ⟨(Nat.le_of_ble_eq_true rfl), (Nat.le_of_ble_eq_true rfl)⟩ [1, 2, 3, 4] [0, 5] (by decide : ([1, 2, 3, 4] ++ ([0, 5] : List Nat)).Perm (List.range 6)) rfl rfl 57 rfl (fun v0 R0 t0 ht0 hp0 => ?_)
  obtain ⟨rfl, wO_54, hwO_54, wA_54, hwA_54, wB_54, hwB_54, wL_54, hwL_54, rfl⟩ := hp0
  refine q_eqs (st' := [.int (nI (k_x bx c))]) rfl ?_
  refine q_reord [4, 0, 1, 2, 3, 5] (by decide : ([4, 0, 1, 2, 3, 5] : List Nat).Perm (List.range 6)) (Rs' := [[(h0, .inr (5, [.ref aO, .ref aY, .ref aN, .int hsn, .ref aT, .ref aK]))], wO_54, wA_54, wB_54, wL_54, wH_46]) rfl rfl ?_
  exact q_iret C B dX6_set_57 rfl rfl (fun t0 ht0 => ⟨rfl, _, hwO_54, _, hwA_54, _, hwB_54, _, hwL_54, _, hwH_46, by first | rfl | simp⟩)

set_option maxHeartbeats 400000 in
set_option maxRecDepth 100000 in
theorem c_X6_idle_b (l : Launch) {D : va_G} {tys : List (ClassId × FieldType)} {Z : (Nat → Prop) → State → Heap → Prop} (hZ : q_St Z) {cI : ClassId} (hI : tys[0]? = some (cI, .int)) {cG : ClassId} (hG : tys[1]? = some (cG, .object "SortCases$State")) (h0 : Nat) (aO : Nat) (aY : Nat) (aN : Nat) (hsn : Int32) (aT : Nat) (aK : Nat) (wX : va_W) (hX : k_isX cI h0 aO aY aN hsn aT aK wX) (aB : Nat) (aL : Nat) (aS : Nat) (sc : Nat → Int32) (wO : va_W) (hO : k_isO cI aO aB aL aS sc wO) (wA : va_W) (hA : k_isA cI aS sc wA) (bx : k_Bx) (at0 : Nat) (wB : va_W) (hB : k_isB cI aB bx at0 wB) (ln : List (Nat × Nat)) (wL : va_W) (hL : k_isL cI aL ln wL) (sv : List k_S) (wH : va_W) (hH : k_isH cG cI aY sv wH) (n : Nat) (hn1 : 1 ≤ n) (hn : n ≤ 99) : q_Ct l D tys Z yX6_idle wsX6_idle ({ frames := 5, cells := 0, slots := 0, locals := 162 } : Room) 0 0 [.ref h0, .int (nI n)] [wX, wO, wA, wB, wL, wH] (fun v0 R0 _ => v0 = some (.int (nI (k_cnt (k_bm bx at0 (-1)) n))) ∧ ∃ wO', k_isO cI aO aB aL aS (k_psc bx at0 (upd sc 3 (-1)) n) wO' ∧ ∃ wA', k_isA cI aS (k_psc bx at0 (upd sc 3 (-1)) n) wA' ∧ ∃ wB', k_isB cI aB ((k_bs bx at0 (-1) n).1) ((k_bs bx at0 (-1) n).2) wB' ∧ ∃ wH', k_isH cG cI aY ((k_sav sv (bx, at0, ln, sc))) wH' ∧ R0 = [wX, wO', wA', wB', wL, wH']) := by
  have hcI := hI
  have hcG := hG
  refine q_ct (cc := cX6_idle) (maxL := 2) (ret := (some .int)) (own := RX6) (by decide) rfl hZ (Nat.le_of_ble_eq_true rfl) rfl ?_
  intro p9 e9 R s9 m9 args below meth c9 A Q C B
  have hts := C.2.2.2.2.1
  have hinX6 : ∀ w ∈ u_ws RX6 TX6 6, w ∈ wsX6_idle := by decide +kernel
  have f19 := hts (.fieldLink RX6 19 "SortCases" "history" "LSortCases$History;") (by decide +kernel)
  have f12 := hts (.fieldLink RX6 12 "SortCases" "state" "LSortCases$State;") (by decide +kernel)
  refine q_eqL (L' := [(0, .ref h0), (1, .int (nI n))]) rfl ?_
  refine q_iload_n C dX6_idle_0 1 1 rfl rfl ?_
  refine q_iconst (v := nI 1) C dX6_idle_1 2 rfl (by decide) ?_
  refine q_icmp_lt C dX6_idle_2 5 11 rfl (by decide) (nI_ltI (by omega) (by omega)) (fun h2 => False.elim (by first | omega | simp_all)) (fun h2 => ?_)
  refine q_iload_n C dX6_idle_5 6 1 rfl rfl ?_
  refine q_bipush (v := nI 99) C dX6_idle_6 8 rfl (by decide) ?_
  refine q_icmp_le C dX6_idle_8 11 21 rfl (by decide) (nI_leI (by omega) (by omega)) (fun h8 => ?_) (fun h8 => False.elim (by first | omega | simp_all))
  refine q_aload_n C dX6_idle_21 22 0 rfl rfl ?_
  obtain rfl := hX
  have hXox1 : k_isX cI h0 aO aY aN hsn aT aK [(h0, .inr (5, [.ref aO, .ref aY, .ref aN, .int hsn, .ref aT, .ref aK]))] := rfl
  refine q_get (k := 0) (j := 0) (f := 1) C hinX6 f19 (fun _ h => h) (by decide) rfl dX6_idle_22 25 rfl rfl rfl rfl ?_
  refine q_aload_n C dX6_idle_25 26 0 rfl rfl ?_
  refine q_get (k := 0) (j := 0) (f := 0) C hinX6 f12 (fun _ h => h) (by decide) rfl dX6_idle_26 29 rfl rfl rfl rfl ?_
  refine q_callV (k := 5) (ci := 1) (n := 1) (rest := []) (Rr := [[(h0, .inr (5, [.ref aO, .ref aY, .ref aN, .int hsn, .ref aT, .ref aK]))]]) C rfl (k_isH_recv hH) rfl (c_X1_save l hZ hI hG aY sv wH hH aO aB aL aS sc wO hO wA hA bx at0 wB hB ln wL hL) gX6_idle_X1_save rfl rfl rfl (by decide +kernel) B.1 ⟨Nat.le_of_ble_eq_true rfl, Nat.le_of_ble_eq_true rfl⟩ rfl rfl (Nat.le_of_ble_eq_true rfl) dX6_idle_29 ⟨(Nat.le_of_ble_eq_true rfl), (Nat.le_of_ble_eq_true rfl)⟩ [5, 1, 2, 3, 4] [0] (by decide : ([5, 1, 2, 3, 4] ++ ([0] : List Nat)).Perm (List.range 6)) rfl rfl 32 rfl (fun v0 R0 t0 ht0 hp0 => ?_)
  obtain ⟨rfl, wH_29, hwH_29, rfl⟩ := hp0
  refine q_eqs (st' := []) rfl ?_
  refine q_reord [5, 1, 2, 3, 4, 0] (by decide : ([5, 1, 2, 3, 4, 0] : List Nat).Perm (List.range 6)) (Rs' := [[(h0, .inr (5, [.ref aO, .ref aY, .ref aN, .int hsn, .ref aT, .ref aK]))], wO, wA, wB, wL, wH_29]) rfl rfl ?_
  refine q_aload_n C dX6_idle_32 33 0 rfl rfl ?_
  refine q_get (k := 0) (j := 0) (f := 0) C hinX6 f12 (fun _ h => h) (by decide) rfl dX6_idle_33 36 rfl rfl rfl rfl ?_
  refine q_iload_n C dX6_idle_36 37 1 rfl rfl ?_
  refine q_callV (k := 1) (ci := 3) (n := 1) (rest := []) (Rr := [[(h0, .inr (5, [.ref aO, .ref aY, .ref aN, .int hsn, .ref aT, .ref aK]))], wL, wH_29]) C rfl (k_isO_recv hO) rfl (c_X4_rest l hZ hI aO aB aL aS sc wO hO wA hA bx at0 wB hB n (by omega)) gX6_idle_X4_rest rfl rfl rfl (by decide +kernel) B.1 ⟨Nat.le_of_ble_eq_true rfl, Nat.le_of_ble_eq_true rfl⟩ rfl rfl (Nat.le_of_ble_eq_true rfl) dX6_idle_37 ⟨(Nat.le_of_ble_eq_true rfl), (Nat.le_of_ble_eq_true rfl)⟩ [1, 2, 3] [0, 4, 5] (by decide : ([1, 2, 3] ++ ([0, 4, 5] : List Nat)).Perm (List.range 6)) rfl rfl 40 rfl (fun v0 R0 t0 ht0 hp0 => ?_)
  obtain ⟨rfl, wO_37, hwO_37, wA_37, hwA_37, wB_37, hwB_37, rfl⟩ := hp0
  refine q_eqs (st' := [.int (nI (k_cnt (k_bm bx at0 (-1)) n))]) rfl ?_
  refine q_reord [3, 0, 1, 2, 4, 5] (by decide : ([3, 0, 1, 2, 4, 5] : List Nat).Perm (List.range 6)) (Rs' := [[(h0, .inr (5, [.ref aO, .ref aY, .ref aN, .int hsn, .ref aT, .ref aK]))], wO_37, wA_37, wB_37, wL, wH_29]) rfl rfl ?_
  exact q_iret C B dX6_idle_40 rfl rfl (fun t0 ht0 => ⟨rfl, _, hwO_37, _, hwA_37, _, hwB_37, _, hwH_29, by first | rfl | simp⟩)

set_option maxHeartbeats 400000 in
set_option maxRecDepth 100000 in
theorem c_X6_fix_c (l : Launch) {D : va_G} {tys : List (ClassId × FieldType)} {Z : (Nat → Prop) → State → Heap → Prop} (hZ : q_St Z) {cI : ClassId} (hI : tys[0]? = some (cI, .int)) (hN : q_Ns Z) {cG : ClassId} (hG : tys[1]? = some (cG, .object "SortCases$State")) (h0 : Nat) (aO : Nat) (aY : Nat) (aN : Nat) (hsn : Int32) (aT : Nat) (aK : Nat) (wX : va_W) (hX : k_isX cI h0 aO aY aN hsn aT aK wX) (aB : Nat) (aL : Nat) (aS : Nat) (sc : Nat → Int32) (wO : va_W) (hO : k_isO cI aO aB aL aS sc wO) (wA : va_W) (hA : k_isA cI aS sc wA) (bx : k_Bx) (at0 : Nat) (wB : va_W) (hB : k_isB cI aB bx at0 wB) (ln : List (Nat × Nat)) (wL : va_W) (hL : k_isL cI aL ln wL) (sv : List k_S) (wH : va_W) (hH : k_isH cG cI aY sv wH) (k : Nat) (hk : k < ln.length) (hkh : k_has ln (nI k) = true) (hw0 : k_wc bx ln sc k = 0) : q_Ct l D tys Z yX6_fix wsX6_fix ({ frames := 4, cells := 0, slots := 0, locals := 132 } : Room) 0 0 [.ref h0, .int (nI k)] [wX, wO, wA, wB, wL, wH] (fun v0 R0 _ => v0 = some (.int (nI (k_er (k_rep ln k (k_la ln k).2)))) ∧ ∃ wO', k_isO cI aO aB aL aS (upd (upd sc 8 (sc 8 + nI 1)) 3 (-1)) wO' ∧ ∃ wA', k_isA cI aS (upd (upd sc 8 (sc 8 + nI 1)) 3 (-1)) wA' ∧ ∃ wB', k_isB cI aB ((k_cor (bx, at0, ln, sc) k).1) at0 wB' ∧ ∃ wL', k_isL cI aL (k_rep ln k (k_la ln k).2) wL' ∧ ∃ wH', k_isH cG cI aY ((k_sav sv (bx, at0, ln, sc))) wH' ∧ R0 = [wX, wO', wA', wB', wL', wH']) := by
  have hcI := hI
  have hcG := hG
  refine q_ct (cc := cX6_fix) (maxL := 2) (ret := (some .int)) (own := RX6) (by decide) rfl hZ (Nat.le_of_ble_eq_true rfl) rfl ?_
  intro p9 e9 R s9 m9 args below meth c9 A Q C B
  have hts := C.2.2.2.2.1
  have hinX6 : ∀ w ∈ u_ws RX6 TX6 6, w ∈ wsX6_fix := by decide +kernel
  have f12 := hts (.fieldLink RX6 12 "SortCases" "state" "LSortCases$State;") (by decide +kernel)
  have hinX4 : ∀ w ∈ u_ws RX4 TX4 11, w ∈ wsX6_fix := by decide +kernel
  have f79 := q_nsb hN C (by decide +kernel : Cond.fieldLinkNest "SortCases" 79 "SortCases$State" "line" "LSortCases$Line;" "SortCases" ∈ q_nest) rfl
  have f19 := hts (.fieldLink RX6 19 "SortCases" "history" "LSortCases$History;") (by decide +kernel)
  refine q_eqL (L' := [(0, .ref h0), (1, .int (nI k))]) rfl ?_
  refine q_aload_n C dX6_fix_0 1 0 rfl rfl ?_
  obtain rfl := hX
  have hXox1 : k_isX cI h0 aO aY aN hsn aT aK [(h0, .inr (5, [.ref aO, .ref aY, .ref aN, .int hsn, .ref aT, .ref aK]))] := rfl
  refine q_get (k := 0) (j := 0) (f := 0) C hinX6 f12 (fun _ h => h) (by decide) rfl dX6_fix_1 4 rfl rfl rfl rfl ?_
  obtain rfl := hO
  have hOox2 : k_isO cI aO aB aL aS sc [(aO, .inr (3, [.ref aB, .ref aL, .ref aS, .int (sc 3), .int (sc 5), .int (sc 6), .int (sc 7), .int (sc 8), .int (sc 9), .int (sc 10), .int (sc 11)]))] := rfl
  refine q_getN (k := 1) (j := 0) (f := 1) C hinX4 f79 (fun _ h => h) (by decide) rfl dX6_fix_4 7 rfl rfl rfl rfl ?_
  refine q_iload_n C dX6_fix_7 8 1 rfl rfl ?_
  refine q_callV (k := 4) (ci := 2) (n := 1) (rest := []) (Rr := [[(h0, .inr (5, [.ref aO, .ref aY, .ref aN, .int hsn, .ref aT, .ref aK]))], [(aO, .inr (3, [.ref aB, .ref aL, .ref aS, .int (sc 3), .int (sc 5), .int (sc 6), .int (sc 7), .int (sc 8), .int (sc 9), .int (sc 10), .int (sc 11)]))], wA, wB, wH]) C rfl (k_isL_recv hL) rfl (c_X2_has l hZ hI aL ln wL hL (nI k)) gX6_fix_X2_has rfl rfl rfl (by decide +kernel) B.1 ⟨Nat.le_of_ble_eq_true rfl, Nat.le_of_ble_eq_true rfl⟩ rfl rfl (Nat.le_of_ble_eq_true rfl) dX6_fix_8 ⟨(Nat.le_of_ble_eq_true rfl), (Nat.le_of_ble_eq_true rfl)⟩ [4] [0, 1, 2, 3, 5] (by decide : ([4] ++ ([0, 1, 2, 3, 5] : List Nat)).Perm (List.range 6)) rfl rfl 11 rfl (fun v0 R0 t0 ht0 hp0 => ?_)
  obtain ⟨rfl, rfl⟩ := hp0
  refine q_eqs (st' := [.int (q_b (k_has ln (nI k)))]) rfl ?_
  refine q_reord [1, 2, 3, 4, 0, 5] (by decide : ([1, 2, 3, 4, 0, 5] : List Nat).Perm (List.range 6)) (Rs' := [[(h0, .inr (5, [.ref aO, .ref aY, .ref aN, .int hsn, .ref aT, .ref aK]))], [(aO, .inr (3, [.ref aB, .ref aL, .ref aS, .int (sc 3), .int (sc 5), .int (sc 6), .int (sc 7), .int (sc 8), .int (sc 9), .int (sc 10), .int (sc 11)]))], wA, wB, wL, wH]) rfl rfl ?_
  refine q_if_ne (P := k_has ln (nI k) = false) C dX6_fix_11 14 24 rfl (by decide) q_b0 (fun h11 => ?_) (fun h11 => False.elim (by rw [h11] at hkh; cases hkh))
  refine q_aload_n C dX6_fix_24 25 0 rfl rfl ?_
  refine q_get (k := 0) (j := 0) (f := 0) C hinX6 f12 (fun _ h => h) (by decide) rfl dX6_fix_25 28 rfl rfl rfl rfl ?_
  refine q_iload_n C dX6_fix_28 29 1 rfl rfl ?_
  refine q_callV (k := 1) (ci := 3) (n := 1) (rest := []) (Rr := [[(h0, .inr (5, [.ref aO, .ref aY, .ref aN, .int hsn, .ref aT, .ref aK]))], wH]) C rfl (k_isO_recv hOox2) rfl (c_X4_whyNotCorrect l hZ hI aO aB aL aS sc ([(aO, .inr (3, [.ref aB, .ref aL, .ref aS, .int (sc 3), .int (sc 5), .int (sc 6), .int (sc 7), .int (sc 8), .int (sc 9), .int (sc 10), .int (sc 11)]))]) hOox2 wA hA bx at0 wB hB ln wL hL k (by omega)) gX6_fix_X4_whyNotCorrect rfl rfl rfl (by decide +kernel) B.1 ⟨Nat.le_of_ble_eq_true rfl, Nat.le_of_ble_eq_true rfl⟩ rfl rfl (Nat.le_of_ble_eq_true rfl) dX6_fix_29 ⟨(Nat.le_of_ble_eq_true rfl), (Nat.le_of_ble_eq_true rfl)⟩ [1, 2, 3, 4] [0, 5] (by decide : ([1, 2, 3, 4] ++ ([0, 5] : List Nat)).Perm (List.range 6)) rfl rfl 32 rfl (fun v0 R0 t0 ht0 hp0 => ?_)
  obtain ⟨rfl, rfl⟩ := hp0
  refine q_eqs (st' := [.int (nI (k_wc bx ln sc k))]) rfl ?_
  refine q_reord [4, 0, 1, 2, 3, 5] (by decide : ([4, 0, 1, 2, 3, 5] : List Nat).Perm (List.range 6)) (Rs' := [[(h0, .inr (5, [.ref aO, .ref aY, .ref aN, .int hsn, .ref aT, .ref aK]))], [(aO, .inr (3, [.ref aB, .ref aL, .ref aS, .int (sc 3), .int (sc 5), .int (sc 6), .int (sc 7), .int (sc 8), .int (sc 9), .int (sc 10), .int (sc 11)]))], wA, wB, wL, wH]) rfl rfl ?_
  refine q_if_eq C dX6_fix_32 35 45 rfl (by decide) (q_eq0 (by omega)) (fun h32 => ?_) (fun h32 => False.elim (by first | omega | simp_all))
  refine q_aload_n C dX6_fix_45 46 0 rfl rfl ?_
  refine q_get (k := 0) (j := 0) (f := 1) C hinX6 f19 (fun _ h => h) (by decide) rfl dX6_fix_46 49 rfl rfl rfl rfl ?_
  refine q_aload_n C dX6_fix_49 50 0 rfl rfl ?_
  refine q_get (k := 0) (j := 0) (f := 0) C hinX6 f12 (fun _ h => h) (by decide) rfl dX6_fix_50 53 rfl rfl rfl rfl ?_
  refine q_callV (k := 5) (ci := 1) (n := 1) (rest := []) (Rr := [[(h0, .inr (5, [.ref aO, .ref aY, .ref aN, .int hsn, .ref aT, .ref aK]))]]) C rfl (k_isH_recv hH) rfl (c_X1_save l hZ hI hG aY sv wH hH aO aB aL aS sc ([(aO, .inr (3, [.ref aB, .ref aL, .ref aS, .int (sc 3), .int (sc 5), .int (sc 6), .int (sc 7), .int (sc 8), .int (sc 9), .int (sc 10), .int (sc 11)]))]) hOox2 wA hA bx at0 wB hB ln wL hL) gX6_fix_X1_save rfl rfl rfl (by decide +kernel) B.1 ⟨Nat.le_of_ble_eq_true rfl, Nat.le_of_ble_eq_true rfl⟩ rfl rfl (Nat.le_of_ble_eq_true rfl) dX6_fix_53 ⟨(Nat.le_of_ble_eq_true rfl), (Nat.le_of_ble_eq_true rfl)⟩ [5, 1, 2, 3, 4] [0] (by decide : ([5, 1, 2, 3, 4] ++ ([0] : List Nat)).Perm (List.range 6)) rfl rfl 56 rfl (fun v0 R0 t0 ht0 hp0 => ?_)
  obtain ⟨rfl, wH_53, hwH_53, rfl⟩ := hp0
  refine q_eqs (st' := []) rfl ?_
  refine q_reord [5, 1, 2, 3, 4, 0] (by decide : ([5, 1, 2, 3, 4, 0] : List Nat).Perm (List.range 6)) (Rs' := [[(h0, .inr (5, [.ref aO, .ref aY, .ref aN, .int hsn, .ref aT, .ref aK]))], [(aO, .inr (3, [.ref aB, .ref aL, .ref aS, .int (sc 3), .int (sc 5), .int (sc 6), .int (sc 7), .int (sc 8), .int (sc 9), .int (sc 10), .int (sc 11)]))], wA, wB, wL, wH_53]) rfl rfl ?_
  refine q_aload_n C dX6_fix_56 57 0 rfl rfl ?_
  refine q_get (k := 0) (j := 0) (f := 0) C hinX6 f12 (fun _ h => h) (by decide) rfl dX6_fix_57 60 rfl rfl rfl rfl ?_
  refine q_iload_n C dX6_fix_60 61 1 rfl rfl ?_
  refine q_callV (k := 1) (ci := 3) (n := 1) (rest := []) (Rr := [[(h0, .inr (5, [.ref aO, .ref aY, .ref aN, .int hsn, .ref aT, .ref aK]))], wH_53]) C rfl (k_isO_recv hOox2) rfl (c_X4_correct l hZ hI aO aB aL aS sc ([(aO, .inr (3, [.ref aB, .ref aL, .ref aS, .int (sc 3), .int (sc 5), .int (sc 6), .int (sc 7), .int (sc 8), .int (sc 9), .int (sc 10), .int (sc 11)]))]) hOox2 wA hA bx at0 wB hB ln wL hL k (by omega) hw0) gX6_fix_X4_correct rfl rfl rfl (by decide +kernel) B.1 ⟨Nat.le_of_ble_eq_true rfl, Nat.le_of_ble_eq_true rfl⟩ rfl rfl (Nat.le_of_ble_eq_true rfl) dX6_fix_61 ⟨(Nat.le_of_ble_eq_true rfl), (Nat.le_of_ble_eq_true rfl)⟩ [1, 2, 3, 4] [0, 5] (by decide : ([1, 2, 3, 4] ++ ([0, 5] : List Nat)).Perm (List.range 6)) rfl rfl 64 rfl (fun v0 R0 t0 ht0 hp0 => ?_)
  obtain ⟨rfl, wO_61, hwO_61, wA_61, hwA_61, wB_61, hwB_61, wL_61, hwL_61, rfl⟩ := hp0
  refine q_eqs (st' := []) rfl ?_
  refine q_reord [4, 0, 1, 2, 3, 5] (by decide : ([4, 0, 1, 2, 3, 5] : List Nat).Perm (List.range 6)) (Rs' := [[(h0, .inr (5, [.ref aO, .ref aY, .ref aN, .int hsn, .ref aT, .ref aK]))], wO_61, wA_61, wB_61, wL_61, wH_53]) rfl rfl ?_
  refine q_aload_n C dX6_fix_64 65 0 rfl rfl ?_
  refine q_get (k := 0) (j := 0) (f := 0) C hinX6 f12 (fun _ h => h) (by decide) rfl dX6_fix_65 68 rfl rfl rfl rfl ?_
  obtain rfl := hwO_61
  have hOox3 : k_isO cI aO aB aL aS (upd (upd sc 8 (sc 8 + nI 1)) 3 (-1)) [(aO, .inr (3, [.ref aB, .ref aL, .ref aS, .int ((upd (upd sc 8 (sc 8 + nI 1)) 3 (-1)) 3), .int ((upd (upd sc 8 (sc 8 + nI 1)) 3 (-1)) 5), .int ((upd (upd sc 8 (sc 8 + nI 1)) 3 (-1)) 6), .int ((upd (upd sc 8 (sc 8 + nI 1)) 3 (-1)) 7), .int ((upd (upd sc 8 (sc 8 + nI 1)) 3 (-1)) 8), .int ((upd (upd sc 8 (sc 8 + nI 1)) 3 (-1)) 9), .int ((upd (upd sc 8 (sc 8 + nI 1)) 3 (-1)) 10), .int ((upd (upd sc 8 (sc 8 + nI 1)) 3 (-1)) 11)]))] := rfl
  refine q_getN (k := 1) (j := 0) (f := 1) C hinX4 f79 (fun _ h => h) (by decide) rfl dX6_fix_68 71 rfl rfl rfl rfl ?_
  refine q_callV (k := 4) (ci := 2) (n := 0) (rest := []) (Rr := [[(h0, .inr (5, [.ref aO, .ref aY, .ref aN, .int hsn, .ref aT, .ref aK]))], [(aO, .inr (3, [.ref aB, .ref aL, .ref aS, .int ((upd (upd sc 8 (sc 8 + nI 1)) 3 (-1)) 3), .int ((upd (upd sc 8 (sc 8 + nI 1)) 3 (-1)) 5), .int ((upd (upd sc 8 (sc 8 + nI 1)) 3 (-1)) 6), .int ((upd (upd sc 8 (sc 8 + nI 1)) 3 (-1)) 7), .int ((upd (upd sc 8 (sc 8 + nI 1)) 3 (-1)) 8), .int ((upd (upd sc 8 (sc 8 + nI 1)) 3 (-1)) 9), .int ((upd (upd sc 8 (sc 8 + nI 1)) 3 (-1)) 10), .int ((upd (upd sc 8 (sc 8 + nI 1)) 3 (-1)) 11)]))], wA_61, wB_61, wH_53]) C rfl (k_isL_recv hwL_61) rfl (c_X2_errors l hZ hI aL (k_rep ln k (k_la ln k).2) wL_61 hwL_61) gX6_fix_X2_errors rfl rfl rfl (by decide +kernel) B.1 ⟨Nat.le_of_ble_eq_true rfl, Nat.le_of_ble_eq_true rfl⟩ rfl rfl (Nat.le_of_ble_eq_true rfl) dX6_fix_71 ⟨(Nat.le_of_ble_eq_true rfl), (Nat.le_of_ble_eq_true rfl)⟩ [4] [0, 1, 2, 3, 5] (by decide : ([4] ++ ([0, 1, 2, 3, 5] : List Nat)).Perm (List.range 6)) rfl rfl 74 rfl (fun v0 R0 t0 ht0 hp0 => ?_)
  obtain ⟨rfl, rfl⟩ := hp0
  refine q_eqs (st' := [.int (nI (k_er (k_rep ln k (k_la ln k).2)))]) rfl ?_
  refine q_reord [1, 2, 3, 4, 0, 5] (by decide : ([1, 2, 3, 4, 0, 5] : List Nat).Perm (List.range 6)) (Rs' := [[(h0, .inr (5, [.ref aO, .ref aY, .ref aN, .int hsn, .ref aT, .ref aK]))], [(aO, .inr (3, [.ref aB, .ref aL, .ref aS, .int ((upd (upd sc 8 (sc 8 + nI 1)) 3 (-1)) 3), .int ((upd (upd sc 8 (sc 8 + nI 1)) 3 (-1)) 5), .int ((upd (upd sc 8 (sc 8 + nI 1)) 3 (-1)) 6), .int ((upd (upd sc 8 (sc 8 + nI 1)) 3 (-1)) 7), .int ((upd (upd sc 8 (sc 8 + nI 1)) 3 (-1)) 8), .int ((upd (upd sc 8 (sc 8 + nI 1)) 3 (-1)) 9), .int ((upd (upd sc 8 (sc 8 + nI 1)) 3 (-1)) 10), .int ((upd (upd sc 8 (sc 8 + nI 1)) 3 (-1)) 11)]))], wA_61, wB_61, wL_61, wH_53]) rfl rfl ?_
  have hc71 : k_er (k_rep ln k (k_la ln k).2) ≤ ((k_rep ln k (k_la ln k).2)).length := k_er_le _
  exact q_iret C B dX6_fix_74 rfl rfl (fun t0 ht0 => ⟨rfl, _, hOox3, _, hwA_61, _, hwB_61, _, hwL_61, _, hwH_53, by first | rfl | simp⟩)

set_option maxHeartbeats 400000 in
set_option maxRecDepth 100000 in
theorem c_X6_back_b (l : Launch) {D : va_G} {tys : List (ClassId × FieldType)} {Z : (Nat → Prop) → State → Heap → Prop} (hZ : q_St Z) {cI : ClassId} (hI : tys[0]? = some (cI, .int)) (hN : q_Ns Z) {cG : ClassId} (hG : tys[1]? = some (cG, .object "SortCases$State")) (h0 : Nat) (aO : Nat) (aY : Nat) (aN : Nat) (hsn : Int32) (aT : Nat) (aK : Nat) (wX : va_W) (hX : k_isX cI h0 aO aY aN hsn aT aK wX) (aB : Nat) (aL : Nat) (aS : Nat) (sc : Nat → Int32) (wO : va_W) (hO : k_isO cI aO aB aL aS sc wO) (wA : va_W) (hA : k_isA cI aS sc wA) (bx : k_Bx) (at0 : Nat) (wB : va_W) (hB : k_isB cI aB bx at0 wB) (ln : List (Nat × Nat)) (wL : va_W) (hL : k_isL cI aL ln wL) (sv : List k_S) (wH : va_W) (hH : k_isH cG cI aY sv wH) (hwy : k_wy bx ln sc = 0) : q_Ct l D tys Z yX6_back wsX6_back ({ frames := 5, cells := 0, slots := 0, locals := 162 } : Room) 0 0 [.ref h0] [wX, wO, wA, wB, wL, wH] (fun v0 R0 _ => v0 = some (.int (nI (k_wr (k_rb bx ln sc (ln).length)))) ∧ ∃ wO', k_isO cI aO aB aL aS (upd (upd sc 9 (sc 9 + nI 1)) 3 (-1)) wO' ∧ ∃ wA', k_isA cI aS (upd (upd sc 9 (sc 9 + nI 1)) 3 (-1)) wA' ∧ ∃ wB', k_isB cI aB (k_rb bx ln sc (ln).length) at0 wB' ∧ ∃ wL', k_isL cI aL (([] : List (Nat × Nat))) wL' ∧ ∃ wH', k_isH cG cI aY ((k_sav sv (bx, at0, ln, sc))) wH' ∧ R0 = [wX, wO', wA', wB', wL', wH']) := by
  have hcI := hI
  have hcG := hG
  refine q_ct (cc := cX6_back) (maxL := 1) (ret := (some .int)) (own := RX6) (by decide) rfl hZ (Nat.le_of_ble_eq_true rfl) rfl ?_
  intro p9 e9 R s9 m9 args below meth c9 A Q C B
  have hts := C.2.2.2.2.1
  have hinX6 : ∀ w ∈ u_ws RX6 TX6 6, w ∈ wsX6_back := by decide +kernel
  have f12 := hts (.fieldLink RX6 12 "SortCases" "state" "LSortCases$State;") (by decide +kernel)
  have f19 := hts (.fieldLink RX6 19 "SortCases" "history" "LSortCases$History;") (by decide +kernel)
  have hinX4 : ∀ w ∈ u_ws RX4 TX4 11, w ∈ wsX6_back := by decide +kernel
  have f111 := q_nsb hN C (by decide +kernel : Cond.fieldLinkNest "SortCases" 111 "SortCases$State" "boxes" "LSortCases$Boxes;" "SortCases" ∈ q_nest) rfl
  refine q_eqL (L' := [(0, .ref h0)]) rfl ?_
  refine q_aload_n C dX6_back_0 1 0 rfl rfl ?_
  obtain rfl := hX
  have hXox1 : k_isX cI h0 aO aY aN hsn aT aK [(h0, .inr (5, [.ref aO, .ref aY, .ref aN, .int hsn, .ref aT, .ref aK]))] := rfl
  refine q_get (k := 0) (j := 0) (f := 0) C hinX6 f12 (fun _ h => h) (by decide) rfl dX6_back_1 4 rfl rfl rfl rfl ?_
  refine q_callV (k := 1) (ci := 3) (n := 0) (rest := []) (Rr := [[(h0, .inr (5, [.ref aO, .ref aY, .ref aN, .int hsn, .ref aT, .ref aK]))], wH]) C rfl (k_isO_recv hO) rfl (c_X4_whyNotReturn l hZ hI hN aO aB aL aS sc wO hO wA hA bx at0 wB hB ln wL hL) gX6_back_X4_whyNotReturn rfl rfl rfl (by decide +kernel) B.1 ⟨Nat.le_of_ble_eq_true rfl, Nat.le_of_ble_eq_true rfl⟩ rfl rfl (Nat.le_of_ble_eq_true rfl) dX6_back_4 ⟨(Nat.le_of_ble_eq_true rfl), (Nat.le_of_ble_eq_true rfl)⟩ [1, 2, 3, 4] [0, 5] (by decide : ([1, 2, 3, 4] ++ ([0, 5] : List Nat)).Perm (List.range 6)) rfl rfl 7 rfl (fun v0 R0 t0 ht0 hp0 => ?_)
  obtain ⟨rfl, rfl⟩ := hp0
  refine q_eqs (st' := [.int (nI (k_wy bx ln sc))]) rfl ?_
  refine q_reord [4, 0, 1, 2, 3, 5] (by decide : ([4, 0, 1, 2, 3, 5] : List Nat).Perm (List.range 6)) (Rs' := [[(h0, .inr (5, [.ref aO, .ref aY, .ref aN, .int hsn, .ref aT, .ref aK]))], wO, wA, wB, wL, wH]) rfl rfl ?_
  refine q_if_eq C dX6_back_7 10 20 rfl (by decide) (q_eq0 (by omega)) (fun h7 => ?_) (fun h7 => False.elim (by first | omega | simp_all))
  refine q_aload_n C dX6_back_20 21 0 rfl rfl ?_
  refine q_get (k := 0) (j := 0) (f := 1) C hinX6 f19 (fun _ h => h) (by decide) rfl dX6_back_21 24 rfl rfl rfl rfl ?_
  refine q_aload_n C dX6_back_24 25 0 rfl rfl ?_
  refine q_get (k := 0) (j := 0) (f := 0) C hinX6 f12 (fun _ h => h) (by decide) rfl dX6_back_25 28 rfl rfl rfl rfl ?_
  refine q_callV (k := 5) (ci := 1) (n := 1) (rest := []) (Rr := [[(h0, .inr (5, [.ref aO, .ref aY, .ref aN, .int hsn, .ref aT, .ref aK]))]]) C rfl (k_isH_recv hH) rfl (c_X1_save l hZ hI hG aY sv wH hH aO aB aL aS sc wO hO wA hA bx at0 wB hB ln wL hL) gX6_back_X1_save rfl rfl rfl (by decide +kernel) B.1 ⟨Nat.le_of_ble_eq_true rfl, Nat.le_of_ble_eq_true rfl⟩ rfl rfl (Nat.le_of_ble_eq_true rfl) dX6_back_28 ⟨(Nat.le_of_ble_eq_true rfl), (Nat.le_of_ble_eq_true rfl)⟩ [5, 1, 2, 3, 4] [0] (by decide : ([5, 1, 2, 3, 4] ++ ([0] : List Nat)).Perm (List.range 6)) rfl rfl 31 rfl (fun v0 R0 t0 ht0 hp0 => ?_)
  obtain ⟨rfl, wH_28, hwH_28, rfl⟩ := hp0
  refine q_eqs (st' := []) rfl ?_
  refine q_reord [5, 1, 2, 3, 4, 0] (by decide : ([5, 1, 2, 3, 4, 0] : List Nat).Perm (List.range 6)) (Rs' := [[(h0, .inr (5, [.ref aO, .ref aY, .ref aN, .int hsn, .ref aT, .ref aK]))], wO, wA, wB, wL, wH_28]) rfl rfl ?_
  refine q_aload_n C dX6_back_31 32 0 rfl rfl ?_
  refine q_get (k := 0) (j := 0) (f := 0) C hinX6 f12 (fun _ h => h) (by decide) rfl dX6_back_32 35 rfl rfl rfl rfl ?_
  refine q_callV (k := 1) (ci := 3) (n := 0) (rest := []) (Rr := [[(h0, .inr (5, [.ref aO, .ref aY, .ref aN, .int hsn, .ref aT, .ref aK]))], wH_28]) C rfl (k_isO_recv hO) rfl (c_X4_returnLine l hZ hI hN aO aB aL aS sc wO hO wA hA bx at0 wB hB ln wL hL hwy) gX6_back_X4_returnLine rfl rfl rfl (by decide +kernel) B.1 ⟨Nat.le_of_ble_eq_true rfl, Nat.le_of_ble_eq_true rfl⟩ rfl rfl (Nat.le_of_ble_eq_true rfl) dX6_back_35 ⟨(Nat.le_of_ble_eq_true rfl), (Nat.le_of_ble_eq_true rfl)⟩ [1, 2, 3, 4] [0, 5] (by decide : ([1, 2, 3, 4] ++ ([0, 5] : List Nat)).Perm (List.range 6)) rfl rfl 38 rfl (fun v0 R0 t0 ht0 hp0 => ?_)
  obtain ⟨rfl, wO_35, hwO_35, wA_35, hwA_35, wB_35, hwB_35, wL_35, hwL_35, rfl⟩ := hp0
  refine q_eqs (st' := []) rfl ?_
  refine q_reord [4, 0, 1, 2, 3, 5] (by decide : ([4, 0, 1, 2, 3, 5] : List Nat).Perm (List.range 6)) (Rs' := [[(h0, .inr (5, [.ref aO, .ref aY, .ref aN, .int hsn, .ref aT, .ref aK]))], wO_35, wA_35, wB_35, wL_35, wH_28]) rfl rfl ?_
  refine q_aload_n C dX6_back_38 39 0 rfl rfl ?_
  refine q_get (k := 0) (j := 0) (f := 0) C hinX6 f12 (fun _ h => h) (by decide) rfl dX6_back_39 42 rfl rfl rfl rfl ?_
  obtain rfl := hwO_35
  have hOox2 : k_isO cI aO aB aL aS (upd (upd sc 9 (sc 9 + nI 1)) 3 (-1)) [(aO, .inr (3, [.ref aB, .ref aL, .ref aS, .int ((upd (upd sc 9 (sc 9 + nI 1)) 3 (-1)) 3), .int ((upd (upd sc 9 (sc 9 + nI 1)) 3 (-1)) 5), .int ((upd (upd sc 9 (sc 9 + nI 1)) 3 (-1)) 6), .int ((upd (upd sc 9 (sc 9 + nI 1)) 3 (-1)) 7), .int ((upd (upd sc 9 (sc 9 + nI 1)) 3 (-1)) 8), .int ((upd (upd sc 9 (sc 9 + nI 1)) 3 (-1)) 9), .int ((upd (upd sc 9 (sc 9 + nI 1)) 3 (-1)) 10), .int ((upd (upd sc 9 (sc 9 + nI 1)) 3 (-1)) 11)]))] := rfl
  refine q_getN (k := 1) (j := 0) (f := 0) C hinX4 f111 (fun _ h => h) (by decide) rfl dX6_back_42 45 rfl rfl rfl rfl ?_
  refine q_callV (k := 3) (ci := 0) (n := 0) (rest := []) (Rr := [[(h0, .inr (5, [.ref aO, .ref aY, .ref aN, .int hsn, .ref aT, .ref aK]))], [(aO, .inr (3, [.ref aB, .ref aL, .ref aS, .int ((upd (upd sc 9 (sc 9 + nI 1)) 3 (-1)) 3), .int ((upd (upd sc 9 (sc 9 + nI 1)) 3 (-1)) 5), .int ((upd (upd sc 9 (sc 9 + nI 1)) 3 (-1)) 6), .int ((upd (upd sc 9 (sc 9 + nI 1)) 3 (-1)) 7), .int ((upd (upd sc 9 (sc 9 + nI 1)) 3 (-1)) 8), .int ((upd (upd sc 9 (sc 9 + nI 1)) 3 (-1)) 9), .int ((upd (upd sc 9 (sc 9 + nI 1)) 3 (-1)) 10), .int ((upd (upd sc 9 (sc 9 + nI 1)) 3 (-1)) 11)]))], wA_35, wL_35, wH_28]) C rfl (k_isB_recv hwB_35) rfl (c_X0_wrong l hZ hI aB (k_rb bx ln sc (ln).length) at0 wB_35 hwB_35) gX6_back_X0_wrong rfl rfl rfl (by decide +kernel) B.1 ⟨Nat.le_of_ble_eq_true rfl, Nat.le_of_ble_eq_true rfl⟩ rfl rfl (Nat.le_of_ble_eq_true rfl) dX6_back_45 ⟨(Nat.le_of_ble_eq_true rfl), (Nat.le_of_ble_eq_true rfl)⟩ [3] [0, 1, 2, 4, 5] (by decide : ([3] ++ ([0, 1, 2, 4, 5] : List Nat)).Perm (List.range 6)) rfl rfl 48 rfl (fun v0 R0 t0 ht0 hp0 => ?_)
  obtain ⟨rfl, rfl⟩ := hp0
  refine q_eqs (st' := [.int (nI (k_wr (k_rb bx ln sc (ln).length)))]) rfl ?_
  refine q_reord [1, 2, 3, 0, 4, 5] (by decide : ([1, 2, 3, 0, 4, 5] : List Nat).Perm (List.range 6)) (Rs' := [[(h0, .inr (5, [.ref aO, .ref aY, .ref aN, .int hsn, .ref aT, .ref aK]))], [(aO, .inr (3, [.ref aB, .ref aL, .ref aS, .int ((upd (upd sc 9 (sc 9 + nI 1)) 3 (-1)) 3), .int ((upd (upd sc 9 (sc 9 + nI 1)) 3 (-1)) 5), .int ((upd (upd sc 9 (sc 9 + nI 1)) 3 (-1)) 6), .int ((upd (upd sc 9 (sc 9 + nI 1)) 3 (-1)) 7), .int ((upd (upd sc 9 (sc 9 + nI 1)) 3 (-1)) 8), .int ((upd (upd sc 9 (sc 9 + nI 1)) 3 (-1)) 9), .int ((upd (upd sc 9 (sc 9 + nI 1)) 3 (-1)) 10), .int ((upd (upd sc 9 (sc 9 + nI 1)) 3 (-1)) 11)]))], wA_35, wB_35, wL_35, wH_28]) rfl rfl ?_
  exact q_iret C B dX6_back_48 rfl rfl (fun t0 ht0 => ⟨rfl, _, hOox2, _, hwA_35, _, hwB_35, _, hwL_35, _, hwH_28, by first | rfl | simp⟩)

set_option maxHeartbeats 400000 in
set_option maxRecDepth 100000 in
theorem c_X6_swap_c (l : Launch) {D : va_G} {tys : List (ClassId × FieldType)} {Z : (Nat → Prop) → State → Heap → Prop} (hZ : q_St Z) {cI : ClassId} (hI : tys[0]? = some (cI, .int)) (hN : q_Ns Z) {cG : ClassId} (hG : tys[1]? = some (cG, .object "SortCases$State")) (h0 : Nat) (aO : Nat) (aY : Nat) (aN : Nat) (hsn : Int32) (aT : Nat) (aK : Nat) (wX : va_W) (hX : k_isX cI h0 aO aY aN hsn aT aK wX) (aB : Nat) (aL : Nat) (aS : Nat) (sc : Nat → Int32) (wO : va_W) (hO : k_isO cI aO aB aL aS sc wO) (wA : va_W) (hA : k_isA cI aS sc wA) (bx : k_Bx) (at0 : Nat) (wB : va_W) (hB : k_isB cI aB bx at0 wB) (ln : List (Nat × Nat)) (wL : va_W) (hL : k_isL cI aL ln wL) (sv : List k_S) (wH : va_W) (hH : k_isH cG cI aY sv wH) (b : Nat) (o : Nat) (hb : b < 12) (ho : o < 12) : q_Ct l D tys Z yX6_swap wsX6_swap ({ frames := 5, cells := 0, slots := 0, locals := 162 } : Room) 0 0 [.ref h0, .int (nI b), .int (nI o)] [wX, wO, wA, wB, wL, wH] (fun v0 R0 _ => v0 = some (.int (nI (k_wr (k_ex bx b o)))) ∧ ∃ wO', k_isO cI aO aB aL aS (upd sc 3 (-1)) wO' ∧ ∃ wA', k_isA cI aS (upd sc 3 (-1)) wA' ∧ ∃ wB', k_isB cI aB (k_ex bx b o) at0 wB' ∧ ∃ wH', k_isH cG cI aY ((k_sav sv (bx, at0, ln, sc))) wH' ∧ R0 = [wX, wO', wA', wB', wL, wH']) := by
  have hcI := hI
  have hcG := hG
  refine q_ct (cc := cX6_swap) (maxL := 3) (ret := (some .int)) (own := RX6) (by decide) rfl hZ (Nat.le_of_ble_eq_true rfl) rfl ?_
  intro p9 e9 R s9 m9 args below meth c9 A Q C B
  have hts := C.2.2.2.2.1
  have hinX6 : ∀ w ∈ u_ws RX6 TX6 6, w ∈ wsX6_swap := by decide +kernel
  have f19 := hts (.fieldLink RX6 19 "SortCases" "history" "LSortCases$History;") (by decide +kernel)
  have f12 := hts (.fieldLink RX6 12 "SortCases" "state" "LSortCases$State;") (by decide +kernel)
  have hinX4 : ∀ w ∈ u_ws RX4 TX4 11, w ∈ wsX6_swap := by decide +kernel
  have f111 := q_nsb hN C (by decide +kernel : Cond.fieldLinkNest "SortCases" 111 "SortCases$State" "boxes" "LSortCases$Boxes;" "SortCases" ∈ q_nest) rfl
  refine q_eqL (L' := [(0, .ref h0), (1, .int (nI b)), (2, .int (nI o))]) rfl ?_
  refine q_iload_n C dX6_swap_0 1 1 rfl rfl ?_
  refine q_callS (n := 1) (rest := []) (Rr := [wX, wO, wA, wB, wL, wH]) C (c_X6_isSort l hZ hI (nI b)) gX6_swap_X6_isSort rfl rfl rfl (by decide +kernel) B.1 ⟨Nat.le_of_ble_eq_true rfl, Nat.le_of_ble_eq_true rfl⟩ rfl rfl (Nat.le_of_ble_eq_true rfl) dX6_swap_1 ⟨(Nat.le_of_ble_eq_true rfl), (Nat.le_of_ble_eq_true rfl)⟩ [] [0, 1, 2, 3, 4, 5] (by decide : ([] ++ ([0, 1, 2, 3, 4, 5] : List Nat)).Perm (List.range 6)) rfl rfl 4 rfl (fun v0 R0 t0 ht0 hp0 => ?_)
  obtain ⟨rfl, rfl⟩ := hp0
  refine q_eqs (st' := [.int (q_b (decide (0 ≤ (nI b) ∧ (nI b) < 12)))]) rfl ?_
  refine q_eqR (Rs' := [wX, wO, wA, wB, wL, wH]) rfl ?_
  refine q_if_eq (P := ¬ (0 ≤ (nI b) ∧ (nI b) < 12)) C dX6_swap_4 7 14 rfl (by decide) q_bd0 (fun h4 => False.elim (h4 (k_ss (by omega)))) (fun h4 => ?_)
  refine q_iload_n C dX6_swap_7 8 2 rfl rfl ?_
  refine q_callS (n := 1) (rest := []) (Rr := [wX, wO, wA, wB, wL, wH]) C (c_X6_isSort l hZ hI (nI o)) gX6_swap_X6_isSort rfl rfl rfl (by decide +kernel) B.1 ⟨Nat.le_of_ble_eq_true rfl, Nat.le_of_ble_eq_true rfl⟩ rfl rfl (Nat.le_of_ble_eq_true rfl) dX6_swap_8 ⟨(Nat.le_of_ble_eq_true rfl), (Nat.le_of_ble_eq_true rfl)⟩ [] [0, 1, 2, 3, 4, 5] (by decide : ([] ++ ([0, 1, 2, 3, 4, 5] : List Nat)).Perm (List.range 6)) rfl rfl 11 rfl (fun v0 R0 t0 ht0 hp0 => ?_)
  obtain ⟨rfl, rfl⟩ := hp0
  refine q_eqs (st' := [.int (q_b (decide (0 ≤ (nI o) ∧ (nI o) < 12)))]) rfl ?_
  refine q_eqR (Rs' := [wX, wO, wA, wB, wL, wH]) rfl ?_
  refine q_if_ne (P := ¬ (0 ≤ (nI o) ∧ (nI o) < 12)) C dX6_swap_11 14 24 rfl (by decide) q_bd0 (fun h11 => ?_) (fun h11 => False.elim (h11 (k_ss (by omega))))
  refine q_aload_n C dX6_swap_24 25 0 rfl rfl ?_
  obtain rfl := hX
  have hXox1 : k_isX cI h0 aO aY aN hsn aT aK [(h0, .inr (5, [.ref aO, .ref aY, .ref aN, .int hsn, .ref aT, .ref aK]))] := rfl
  refine q_get (k := 0) (j := 0) (f := 1) C hinX6 f19 (fun _ h => h) (by decide) rfl dX6_swap_25 28 rfl rfl rfl rfl ?_
  refine q_aload_n C dX6_swap_28 29 0 rfl rfl ?_
  refine q_get (k := 0) (j := 0) (f := 0) C hinX6 f12 (fun _ h => h) (by decide) rfl dX6_swap_29 32 rfl rfl rfl rfl ?_
  refine q_callV (k := 5) (ci := 1) (n := 1) (rest := []) (Rr := [[(h0, .inr (5, [.ref aO, .ref aY, .ref aN, .int hsn, .ref aT, .ref aK]))]]) C rfl (k_isH_recv hH) rfl (c_X1_save l hZ hI hG aY sv wH hH aO aB aL aS sc wO hO wA hA bx at0 wB hB ln wL hL) gX6_swap_X1_save rfl rfl rfl (by decide +kernel) B.1 ⟨Nat.le_of_ble_eq_true rfl, Nat.le_of_ble_eq_true rfl⟩ rfl rfl (Nat.le_of_ble_eq_true rfl) dX6_swap_32 ⟨(Nat.le_of_ble_eq_true rfl), (Nat.le_of_ble_eq_true rfl)⟩ [5, 1, 2, 3, 4] [0] (by decide : ([5, 1, 2, 3, 4] ++ ([0] : List Nat)).Perm (List.range 6)) rfl rfl 35 rfl (fun v0 R0 t0 ht0 hp0 => ?_)
  obtain ⟨rfl, wH_32, hwH_32, rfl⟩ := hp0
  refine q_eqs (st' := []) rfl ?_
  refine q_reord [5, 1, 2, 3, 4, 0] (by decide : ([5, 1, 2, 3, 4, 0] : List Nat).Perm (List.range 6)) (Rs' := [[(h0, .inr (5, [.ref aO, .ref aY, .ref aN, .int hsn, .ref aT, .ref aK]))], wO, wA, wB, wL, wH_32]) rfl rfl ?_
  refine q_aload_n C dX6_swap_35 36 0 rfl rfl ?_
  refine q_get (k := 0) (j := 0) (f := 0) C hinX6 f12 (fun _ h => h) (by decide) rfl dX6_swap_36 39 rfl rfl rfl rfl ?_
  refine q_iload_n C dX6_swap_39 40 1 rfl rfl ?_
  refine q_iload_n C dX6_swap_40 41 2 rfl rfl ?_
  refine q_callV (k := 1) (ci := 3) (n := 2) (rest := []) (Rr := [[(h0, .inr (5, [.ref aO, .ref aY, .ref aN, .int hsn, .ref aT, .ref aK]))], wL, wH_32]) C rfl (k_isO_recv hO) rfl (c_X4_exchange l hZ hI aO aB aL aS sc wO hO wA hA bx at0 wB hB b o (by omega) (by omega)) gX6_swap_X4_exchange rfl rfl rfl (by decide +kernel) B.1 ⟨Nat.le_of_ble_eq_true rfl, Nat.le_of_ble_eq_true rfl⟩ rfl rfl (Nat.le_of_ble_eq_true rfl) dX6_swap_41 ⟨(Nat.le_of_ble_eq_true rfl), (Nat.le_of_ble_eq_true rfl)⟩ [1, 2, 3] [0, 4, 5] (by decide : ([1, 2, 3] ++ ([0, 4, 5] : List Nat)).Perm (List.range 6)) rfl rfl 44 rfl (fun v0 R0 t0 ht0 hp0 => ?_)
  obtain ⟨rfl, wO_41, hwO_41, wA_41, hwA_41, wB_41, hwB_41, rfl⟩ := hp0
  refine q_eqs (st' := []) rfl ?_
  refine q_reord [3, 0, 1, 2, 4, 5] (by decide : ([3, 0, 1, 2, 4, 5] : List Nat).Perm (List.range 6)) (Rs' := [[(h0, .inr (5, [.ref aO, .ref aY, .ref aN, .int hsn, .ref aT, .ref aK]))], wO_41, wA_41, wB_41, wL, wH_32]) rfl rfl ?_
  refine q_aload_n C dX6_swap_44 45 0 rfl rfl ?_
  refine q_get (k := 0) (j := 0) (f := 0) C hinX6 f12 (fun _ h => h) (by decide) rfl dX6_swap_45 48 rfl rfl rfl rfl ?_
  obtain rfl := hwO_41
  have hOox2 : k_isO cI aO aB aL aS (upd sc 3 (-1)) [(aO, .inr (3, [.ref aB, .ref aL, .ref aS, .int ((upd sc 3 (-1)) 3), .int ((upd sc 3 (-1)) 5), .int ((upd sc 3 (-1)) 6), .int ((upd sc 3 (-1)) 7), .int ((upd sc 3 (-1)) 8), .int ((upd sc 3 (-1)) 9), .int ((upd sc 3 (-1)) 10), .int ((upd sc 3 (-1)) 11)]))] := rfl
  refine q_getN (k := 1) (j := 0) (f := 0) C hinX4 f111 (fun _ h => h) (by decide) rfl dX6_swap_48 51 rfl rfl rfl rfl ?_
  refine q_callV (k := 3) (ci := 0) (n := 0) (rest := []) (Rr := [[(h0, .inr (5, [.ref aO, .ref aY, .ref aN, .int hsn, .ref aT, .ref aK]))], [(aO, .inr (3, [.ref aB, .ref aL, .ref aS, .int ((upd sc 3 (-1)) 3), .int ((upd sc 3 (-1)) 5), .int ((upd sc 3 (-1)) 6), .int ((upd sc 3 (-1)) 7), .int ((upd sc 3 (-1)) 8), .int ((upd sc 3 (-1)) 9), .int ((upd sc 3 (-1)) 10), .int ((upd sc 3 (-1)) 11)]))], wA_41, wL, wH_32]) C rfl (k_isB_recv hwB_41) rfl (c_X0_wrong l hZ hI aB (k_ex bx b o) at0 wB_41 hwB_41) gX6_swap_X0_wrong rfl rfl rfl (by decide +kernel) B.1 ⟨Nat.le_of_ble_eq_true rfl, Nat.le_of_ble_eq_true rfl⟩ rfl rfl (Nat.le_of_ble_eq_true rfl) dX6_swap_51 ⟨(Nat.le_of_ble_eq_true rfl), (Nat.le_of_ble_eq_true rfl)⟩ [3] [0, 1, 2, 4, 5] (by decide : ([3] ++ ([0, 1, 2, 4, 5] : List Nat)).Perm (List.range 6)) rfl rfl 54 rfl (fun v0 R0 t0 ht0 hp0 => ?_)
  obtain ⟨rfl, rfl⟩ := hp0
  refine q_eqs (st' := [.int (nI (k_wr (k_ex bx b o)))]) rfl ?_
  refine q_reord [1, 2, 3, 0, 4, 5] (by decide : ([1, 2, 3, 0, 4, 5] : List Nat).Perm (List.range 6)) (Rs' := [[(h0, .inr (5, [.ref aO, .ref aY, .ref aN, .int hsn, .ref aT, .ref aK]))], [(aO, .inr (3, [.ref aB, .ref aL, .ref aS, .int ((upd sc 3 (-1)) 3), .int ((upd sc 3 (-1)) 5), .int ((upd sc 3 (-1)) 6), .int ((upd sc 3 (-1)) 7), .int ((upd sc 3 (-1)) 8), .int ((upd sc 3 (-1)) 9), .int ((upd sc 3 (-1)) 10), .int ((upd sc 3 (-1)) 11)]))], wA_41, wB_41, wL, wH_32]) rfl rfl ?_
  exact q_iret C B dX6_swap_54 rfl rfl (fun t0 ht0 => ⟨rfl, _, hOox2, _, hwA_41, _, hwB_41, _, hwH_32, by first | rfl | simp⟩)

set_option maxHeartbeats 400000 in
set_option maxRecDepth 100000 in
theorem c_X6_change_c (l : Launch) {D : va_G} {tys : List (ClassId × FieldType)} {Z : (Nat → Prop) → State → Heap → Prop} (hZ : q_St Z) {cI : ClassId} (hI : tys[0]? = some (cI, .int)) {cG : ClassId} (hG : tys[1]? = some (cG, .object "SortCases$State")) {tL tH : Nat} (hVs : q_Vs Z tL tH) (h0 : Nat) (aO : Nat) (aY : Nat) (aN : Nat) (hsn : Int32) (aT : Nat) (aK : Nat) (wX : va_W) (hX : k_isX cI h0 aO aY aN hsn aT aK wX) (aB : Nat) (aL : Nat) (aS : Nat) (sc : Nat → Int32) (wO : va_W) (hO : k_isO cI aO aB aL aS sc wO) (wA : va_W) (hA : k_isA cI aS sc wA) (bx : k_Bx) (at0 : Nat) (wB : va_W) (hB : k_isB cI aB bx at0 wB) (ln : List (Nat × Nat)) (wL : va_W) (hL : k_isL cI aL ln wL) (sv : List k_S) (wH : va_W) (hH : k_isH cG cI aY sv wH) (i : Nat) (v : Int32) (hi : i < 3) (hgood : k_lo i ≤ v ∧ v ≤ k_hi i) : q_Ct l D tys Z yX6_change wsX6_change ({ frames := 4, cells := 0, slots := 0, locals := 132 } : Room) 0 0 [.ref h0, .int (nI i), .int v] [wX, wO, wA, wB, wL, wH] (fun v0 R0 _ => v0 = some (.int (sc i)) ∧ ∃ wO', k_isO cI aO aB aL aS (upd (upd sc 3 (-1)) i v) wO' ∧ ∃ wA', k_isA cI aS (upd (upd sc 3 (-1)) i v) wA' ∧ ∃ wH', k_isH cG cI aY ((k_sav sv (bx, at0, ln, sc))) wH' ∧ R0 = [wX, wO', wA', wB, wL, wH']) := by
  have hcI := hI
  have hcG := hG
  refine q_ct (cc := cX6_change) (maxL := 3) (ret := (some .int)) (own := RX6) (by decide) rfl hZ (Nat.le_of_ble_eq_true rfl) rfl ?_
  intro p9 e9 R s9 m9 args below meth c9 A Q C B
  have hts := C.2.2.2.2.1
  have f123 := hts (.fieldLink RX6 123 "SortCases" "LOWEST_VALUES" "[I") (by decide +kernel)
  have f127 := hts (.fieldLink RX6 127 "SortCases" "HIGHEST_VALUES" "[I") (by decide +kernel)
  have hinX6 : ∀ w ∈ u_ws RX6 TX6 6, w ∈ wsX6_change := by decide +kernel
  have f19 := hts (.fieldLink RX6 19 "SortCases" "history" "LSortCases$History;") (by decide +kernel)
  have f12 := hts (.fieldLink RX6 12 "SortCases" "state" "LSortCases$State;") (by decide +kernel)
  refine q_eqL (L' := [(0, .ref h0), (1, .int (nI i)), (2, .int v)]) rfl ?_
  refine q_iload_n C dX6_change_0 1 1 rfl rfl ?_
  refine q_if_lt C dX6_change_1 4 20 rfl (by decide) (q_lt0 (by omega)) (fun h1 => False.elim (by first | omega | simp_all)) (fun h1 => ?_)
  refine q_iload_n C dX6_change_4 5 1 rfl rfl ?_
  refine q_gets (v := .ref tL) C (q_vc hVs C).1.1 f123 (fun _ h => h) dX6_change_5 8 rfl ?_
  refine q_tlen C (q_vc hVs C).1.2 (v := nI 3) rfl dX6_change_8 9 rfl ?_
  refine q_icmp_ge C dX6_change_9 12 20 rfl (by decide) (nI_leI (by omega) (by omega)) (fun h9 => False.elim (by first | omega | simp_all)) (fun h9 => ?_)
  refine q_iload_n C dX6_change_12 13 1 rfl rfl ?_
  refine q_gets (v := .ref tH) C (q_vc hVs C).2.1 f127 (fun _ h => h) dX6_change_13 16 rfl ?_
  refine q_tlen C (q_vc hVs C).2.2 (v := nI 3) rfl dX6_change_16 17 rfl ?_
  refine q_icmp_lt C dX6_change_17 20 30 rfl (by decide) (nI_ltI (by omega) (by omega)) (fun h17 => ?_) (fun h17 => False.elim (by first | omega | simp_all))
  refine q_iload_n C dX6_change_30 31 2 rfl rfl ?_
  refine q_gets (v := .ref tL) C (q_vc hVs C).1.1 f123 (fun _ h => h) dX6_change_31 34 rfl ?_
  refine q_iload_n C dX6_change_34 35 1 rfl rfl ?_
  refine q_ti C (q_vc hVs C).1.2 i rfl (by omega) (by decide) (v := .int (k_lo i)) rfl dX6_change_35 36 rfl ?_
  refine q_icmp_lt C dX6_change_36 39 48 rfl (by decide) Iff.rfl (fun h36 => False.elim (absurd hgood.1 (Int32.not_le.mpr h36))) (fun h36 => ?_)
  refine q_iload_n C dX6_change_39 40 2 rfl rfl ?_
  refine q_gets (v := .ref tH) C (q_vc hVs C).2.1 f127 (fun _ h => h) dX6_change_40 43 rfl ?_
  refine q_iload_n C dX6_change_43 44 1 rfl rfl ?_
  refine q_ti C (q_vc hVs C).2.2 i rfl (by omega) (by decide) (v := .int (k_hi i)) rfl dX6_change_44 45 rfl ?_
  refine q_icmp_le C dX6_change_45 48 58 rfl (by decide) Iff.rfl (fun h45 => ?_) (fun h45 => False.elim (h45 hgood.2))
  refine q_aload_n C dX6_change_58 59 0 rfl rfl ?_
  obtain rfl := hX
  have hXox1 : k_isX cI h0 aO aY aN hsn aT aK [(h0, .inr (5, [.ref aO, .ref aY, .ref aN, .int hsn, .ref aT, .ref aK]))] := rfl
  refine q_get (k := 0) (j := 0) (f := 1) C hinX6 f19 (fun _ h => h) (by decide) rfl dX6_change_59 62 rfl rfl rfl rfl ?_
  refine q_aload_n C dX6_change_62 63 0 rfl rfl ?_
  refine q_get (k := 0) (j := 0) (f := 0) C hinX6 f12 (fun _ h => h) (by decide) rfl dX6_change_63 66 rfl rfl rfl rfl ?_
  refine q_callV (k := 5) (ci := 1) (n := 1) (rest := []) (Rr := [[(h0, .inr (5, [.ref aO, .ref aY, .ref aN, .int hsn, .ref aT, .ref aK]))]]) C rfl (k_isH_recv hH) rfl (c_X1_save l hZ hI hG aY sv wH hH aO aB aL aS sc wO hO wA hA bx at0 wB hB ln wL hL) gX6_change_X1_save rfl rfl rfl (by decide +kernel) B.1 ⟨Nat.le_of_ble_eq_true rfl, Nat.le_of_ble_eq_true rfl⟩ rfl rfl (Nat.le_of_ble_eq_true rfl) dX6_change_66 ⟨(Nat.le_of_ble_eq_true rfl), (Nat.le_of_ble_eq_true rfl)⟩ [5, 1, 2, 3, 4] [0] (by decide : ([5, 1, 2, 3, 4] ++ ([0] : List Nat)).Perm (List.range 6)) rfl rfl 69 rfl (fun v0 R0 t0 ht0 hp0 => ?_)
  obtain ⟨rfl, wH_66, hwH_66, rfl⟩ := hp0
  refine q_eqs (st' := []) rfl ?_
  refine q_reord [5, 1, 2, 3, 4, 0] (by decide : ([5, 1, 2, 3, 4, 0] : List Nat).Perm (List.range 6)) (Rs' := [[(h0, .inr (5, [.ref aO, .ref aY, .ref aN, .int hsn, .ref aT, .ref aK]))], wO, wA, wB, wL, wH_66]) rfl rfl ?_
  refine q_aload_n C dX6_change_69 70 0 rfl rfl ?_
  refine q_get (k := 0) (j := 0) (f := 0) C hinX6 f12 (fun _ h => h) (by decide) rfl dX6_change_70 73 rfl rfl rfl rfl ?_
  refine q_iload_n C dX6_change_73 74 1 rfl rfl ?_
  refine q_iload_n C dX6_change_74 75 2 rfl rfl ?_
  refine q_callV (k := 1) (ci := 3) (n := 2) (rest := []) (Rr := [[(h0, .inr (5, [.ref aO, .ref aY, .ref aN, .int hsn, .ref aT, .ref aK]))], wB, wL, wH_66]) C rfl (k_isO_recv hO) rfl (c_X4_changeSetting l hZ hI aO aB aL aS sc wO hO wA hA i v (by omega)) gX6_change_X4_changeSetting rfl rfl rfl (by decide +kernel) B.1 ⟨Nat.le_of_ble_eq_true rfl, Nat.le_of_ble_eq_true rfl⟩ rfl rfl (Nat.le_of_ble_eq_true rfl) dX6_change_75 ⟨(Nat.le_of_ble_eq_true rfl), (Nat.le_of_ble_eq_true rfl)⟩ [1, 2] [0, 3, 4, 5] (by decide : ([1, 2] ++ ([0, 3, 4, 5] : List Nat)).Perm (List.range 6)) rfl rfl 78 rfl (fun v0 R0 t0 ht0 hp0 => ?_)
  obtain ⟨rfl, wO_75, hwO_75, wA_75, hwA_75, rfl⟩ := hp0
  refine q_eqs (st' := [.int (sc i)]) rfl ?_
  refine q_reord [2, 0, 1, 3, 4, 5] (by decide : ([2, 0, 1, 3, 4, 5] : List Nat).Perm (List.range 6)) (Rs' := [[(h0, .inr (5, [.ref aO, .ref aY, .ref aN, .int hsn, .ref aT, .ref aK]))], wO_75, wA_75, wB, wL, wH_66]) rfl rfl ?_
  exact q_iret C B dX6_change_78 rfl rfl (fun t0 ht0 => ⟨rfl, _, hwO_75, _, hwA_75, _, hwH_66, by first | rfl | simp⟩)

set_option maxHeartbeats 400000 in
set_option maxRecDepth 100000 in
theorem c_X6_stopped_b (l : Launch) {D : va_G} {tys : List (ClassId × FieldType)} {Z : (Nat → Prop) → State → Heap → Prop} (hZ : q_St Z) {cI : ClassId} (hI : tys[0]? = some (cI, .int)) (hN : q_Ns Z) (h0 : Nat) (aO : Nat) (aY : Nat) (aN : Nat) (hsn : Int32) (aT : Nat) (aK : Nat) (wX : va_W) (hX : k_isX cI h0 aO aY aN hsn aT aK wX) (aB : Nat) (aL : Nat) (aS : Nat) (sc : Nat → Int32) (wO : va_W) (hO : k_isO cI aO aB aL aS sc wO) (wA : va_W) (hA : k_isA cI aS sc wA) (i : Nat) (hi : i < 2) : q_Ct l D tys Z yX6_stopped wsX6_stopped ({ frames := 1, cells := 0, slots := 0, locals := 42 } : Room) 0 0 [.ref h0, .int (nI i)] [wX, wO, wA] (fun v0 R0 _ => v0 = some (.int (sc (10 + i))) ∧ R0 = [wX, wO, wA]) := by
  have hcI := hI
  refine q_ct (cc := cX6_stopped) (maxL := 2) (ret := (some .int)) (own := RX6) (by decide) rfl hZ (Nat.le_of_ble_eq_true rfl) rfl ?_
  intro p9 e9 R s9 m9 args below meth c9 A Q C B
  have hts := C.2.2.2.2.1
  have hinX6 : ∀ w ∈ u_ws RX6 TX6 6, w ∈ wsX6_stopped := by decide +kernel
  have f12 := hts (.fieldLink RX6 12 "SortCases" "state" "LSortCases$State;") (by decide +kernel)
  have hinX4 : ∀ w ∈ u_ws RX4 TX4 11, w ∈ wsX6_stopped := by decide +kernel
  have f170 := q_nsb hN C (by decide +kernel : Cond.fieldLinkNest "SortCases" 170 "SortCases$State" "stopReason" "I" "SortCases" ∈ q_nest) rfl
  have f167 := q_nsb hN C (by decide +kernel : Cond.fieldLinkNest "SortCases" 167 "SortCases$State" "stopPart" "I" "SortCases" ∈ q_nest) rfl
  refine q_eqL (L' := [(0, .ref h0), (1, .int (nI i))]) rfl ?_
  refine q_iload_n C dX6_stopped_0 1 1 rfl rfl ?_
  refine q_if_lt C dX6_stopped_1 4 9 rfl (by decide) (q_lt0 (by omega)) (fun h1 => False.elim (by first | omega | simp_all)) (fun h1 => ?_)
  refine q_iload_n C dX6_stopped_4 5 1 rfl rfl ?_
  refine q_iconst (v := nI 1) C dX6_stopped_5 6 rfl (by decide) ?_
  refine q_icmp_le C dX6_stopped_6 9 19 rfl (by decide) (nI_leI (by omega) (by omega)) (fun h6 => ?_) (fun h6 => False.elim (by first | omega | simp_all))
  refine q_iload_n C dX6_stopped_19 20 1 rfl rfl ?_
  refine q_if_ne C dX6_stopped_20 23 33 rfl (by decide) (q_eq0 (by omega)) (fun h20 => ?_) (fun h20 => ?_)
  · refine q_aload_n C dX6_stopped_33 34 0 rfl rfl ?_
    obtain rfl := hX
    have hXox1 : k_isX cI h0 aO aY aN hsn aT aK [(h0, .inr (5, [.ref aO, .ref aY, .ref aN, .int hsn, .ref aT, .ref aK]))] := rfl
    refine q_get (k := 0) (j := 0) (f := 0) C hinX6 f12 (fun _ h => h) (by decide) rfl dX6_stopped_34 37 rfl rfl rfl rfl ?_
    obtain rfl := hO
    have hOox2 : k_isO cI aO aB aL aS sc [(aO, .inr (3, [.ref aB, .ref aL, .ref aS, .int (sc 3), .int (sc 5), .int (sc 6), .int (sc 7), .int (sc 8), .int (sc 9), .int (sc 10), .int (sc 11)]))] := rfl
    refine q_getN (k := 1) (j := 0) (f := 10) C hinX4 f170 (fun _ h => h) (by decide) rfl dX6_stopped_37 40 rfl rfl rfl rfl ?_
    exact q_iret C B dX6_stopped_40 rfl rfl (fun t0 ht0 => ⟨by rw [show i = 1 by omega], rfl⟩)
  · refine q_aload_n C dX6_stopped_23 24 0 rfl rfl ?_
    obtain rfl := hX
    have hXox3 : k_isX cI h0 aO aY aN hsn aT aK [(h0, .inr (5, [.ref aO, .ref aY, .ref aN, .int hsn, .ref aT, .ref aK]))] := rfl
    refine q_get (k := 0) (j := 0) (f := 0) C hinX6 f12 (fun _ h => h) (by decide) rfl dX6_stopped_24 27 rfl rfl rfl rfl ?_
    obtain rfl := hO
    have hOox4 : k_isO cI aO aB aL aS sc [(aO, .inr (3, [.ref aB, .ref aL, .ref aS, .int (sc 3), .int (sc 5), .int (sc 6), .int (sc 7), .int (sc 8), .int (sc 9), .int (sc 10), .int (sc 11)]))] := rfl
    refine q_getN (k := 1) (j := 0) (f := 9) C hinX4 f167 (fun _ h => h) (by decide) rfl dX6_stopped_27 30 rfl rfl rfl rfl ?_
    refine q_goto C dX6_stopped_30 40 (by decide) ?_
    exact q_iret C B dX6_stopped_40 rfl rfl (fun t0 ht0 => ⟨by rw [show i = 0 by omega], rfl⟩)

set_option maxHeartbeats 400000 in
set_option maxRecDepth 100000 in
theorem c_X6_undo_b (l : Launch) {D : va_G} {tys : List (ClassId × FieldType)} {Z : (Nat → Prop) → State → Heap → Prop} (hZ : q_St Z) {cI : ClassId} (hI : tys[0]? = some (cI, .int)) (hN : q_Ns Z) {cG : ClassId} (hG : tys[1]? = some (cG, .object "SortCases$State")) (h0 : Nat) (aO : Nat) (aY : Nat) (aN : Nat) (hsn : Int32) (aT : Nat) (aK : Nat) (wX : va_W) (hX : k_isX cI h0 aO aY aN hsn aT aK wX) (aB : Nat) (aL : Nat) (aS : Nat) (sc : Nat → Int32) (wO : va_W) (hO : k_isO cI aO aB aL aS sc wO) (wA : va_W) (hA : k_isA cI aS sc wA) (bx : k_Bx) (at0 : Nat) (wB : va_W) (hB : k_isB cI aB bx at0 wB) (ln : List (Nat × Nat)) (wL : va_W) (hL : k_isL cI aL ln wL) (sv : List k_S) (wH : va_W) (hH : k_isH cG cI aY sv wH) (hs0 : 0 < sv.length) : q_Ct l D tys Z yX6_undo wsX6_undo ({ frames := 4, cells := 0, slots := 0, locals := 132 } : Room) 0 0 [.ref h0] [wX, wO, wA, wB, wL, wH] (fun v0 R0 _ => v0 = some (.int (nI (sv.length - 1))) ∧ ∃ wO', k_isO cI aO aB aL aS ((k_nw sv).2.2.2) wO' ∧ ∃ wA', k_isA cI aS ((k_nw sv).2.2.2) wA' ∧ ∃ wB', k_isB cI aB ((k_nw sv).1) ((k_nw sv).2.1) wB' ∧ ∃ wL', k_isL cI aL ((k_nw sv).2.2.1) wL' ∧ ∃ wH', k_isH cG cI aY sv.dropLast wH' ∧ R0 = [wX, wO', wA', wB', wL', wH']) := by
  have hcI := hI
  have hcG := hG
  refine q_ct (cc := cX6_undo) (maxL := 1) (ret := (some .int)) (own := RX6) (by decide) rfl hZ (Nat.le_of_ble_eq_true rfl) rfl ?_
  intro p9 e9 R s9 m9 args below meth c9 A Q C B
  have hts := C.2.2.2.2.1
  have hinX6 : ∀ w ∈ u_ws RX6 TX6 6, w ∈ wsX6_undo := by decide +kernel
  have f19 := hts (.fieldLink RX6 19 "SortCases" "history" "LSortCases$History;") (by decide +kernel)
  have hinX1 : ∀ w ∈ u_ws RX1 TX1 3, w ∈ wsX6_undo := by decide +kernel
  have f180 := q_nsb hN C (by decide +kernel : Cond.fieldLinkNest "SortCases" 180 "SortCases$History" "size" "I" "SortCases" ∈ q_nest) rfl
  have f12 := hts (.fieldLink RX6 12 "SortCases" "state" "LSortCases$State;") (by decide +kernel)
  refine q_eqL (L' := [(0, .ref h0)]) rfl ?_
  obtain ⟨aG, nx, f, g, T, W, hat, h6, rfl⟩ := hH
  have hl6 := hat.1
  have hHc : k_isH cG cI aY sv (k_Hc cG aY aG nx sv.length f ++ k_flat W 6) := ⟨aG, nx, f, g, T, W, hat, h6, rfl⟩
  refine q_resp (Rs' := [wX, wO, wA, wB, wL, [(aY, .inr (1, [.ref aG, .int (nI nx), .int (nI sv.length)])), (aG, .inl (cG, 6, .inr (.inr (.inr (.inr f)))))], (k_flat W 6)]) (by simp [k_Hc]) ?_
  refine q_aload_n C dX6_undo_0 1 0 rfl rfl ?_
  obtain rfl := hX
  have hXox1 : k_isX cI h0 aO aY aN hsn aT aK [(h0, .inr (5, [.ref aO, .ref aY, .ref aN, .int hsn, .ref aT, .ref aK]))] := rfl
  refine q_get (k := 0) (j := 0) (f := 1) C hinX6 f19 (fun _ h => h) (by decide) rfl dX6_undo_1 4 rfl rfl rfl rfl ?_
  refine q_getN (k := 5) (j := 0) (f := 2) C hinX1 f180 (fun _ h => h) (by decide) rfl dX6_undo_4 7 rfl rfl rfl rfl ?_
  refine q_if_gt C dX6_undo_7 10 20 rfl (by decide) (q_gt0 (by omega)) (fun h7 => ?_) (fun h7 => False.elim (by first | omega | simp_all))
  refine q_resp (Rs' := [[(h0, .inr (5, [.ref aO, .ref aY, .ref aN, .int hsn, .ref aT, .ref aK]))], wO, wA, wB, wL, (k_Hc cG aY aG nx sv.length f ++ k_flat W 6)]) (by simp [k_Hc]) ?_
  refine q_aload_n C dX6_undo_20 21 0 rfl rfl ?_
  refine q_get (k := 0) (j := 0) (f := 1) C hinX6 f19 (fun _ h => h) (by decide) rfl dX6_undo_21 24 rfl rfl rfl rfl ?_
  refine q_aload_n C dX6_undo_24 25 0 rfl rfl ?_
  refine q_get (k := 0) (j := 0) (f := 0) C hinX6 f12 (fun _ h => h) (by decide) rfl dX6_undo_25 28 rfl rfl rfl rfl ?_
  refine q_callV (k := 5) (ci := 1) (n := 1) (rest := []) (Rr := [[(h0, .inr (5, [.ref aO, .ref aY, .ref aN, .int hsn, .ref aT, .ref aK]))]]) C rfl (k_isH_recv hHc) rfl (c_X1_giveBack l hZ hI hG aY sv ((k_Hc cG aY aG nx sv.length f ++ k_flat W 6)) hHc aO aB aL aS sc wO hO wA hA bx at0 wB hB ln wL hL hs0) gX6_undo_X1_giveBack rfl rfl rfl (by decide +kernel) B.1 ⟨Nat.le_of_ble_eq_true rfl, Nat.le_of_ble_eq_true rfl⟩ rfl rfl (Nat.le_of_ble_eq_true rfl) dX6_undo_28 ⟨(Nat.le_of_ble_eq_true rfl), (Nat.le_of_ble_eq_true rfl)⟩ [5, 1, 2, 3, 4] [0] (by decide : ([5, 1, 2, 3, 4] ++ ([0] : List Nat)).Perm (List.range 6)) rfl rfl 31 rfl (fun v0 R0 t0 ht0 hp0 => ?_)
  obtain ⟨rfl, wH_28, hwH_28, wO_28, hwO_28, wA_28, hwA_28, wB_28, hwB_28, wL_28, hwL_28, rfl⟩ := hp0
  refine q_eqs (st' := []) rfl ?_
  refine q_reord [5, 1, 2, 3, 4, 0] (by decide : ([5, 1, 2, 3, 4, 0] : List Nat).Perm (List.range 6)) (Rs' := [[(h0, .inr (5, [.ref aO, .ref aY, .ref aN, .int hsn, .ref aT, .ref aK]))], wO_28, wA_28, wB_28, wL_28, wH_28]) rfl rfl ?_
  obtain ⟨aG2, nx2, f2, g2, T2, W2, hat2, h62, rfl⟩ := hwH_28
  have hHd : k_isH cG cI aY sv.dropLast (k_Hc cG aY aG2 nx2 sv.dropLast.length f2 ++ k_flat W2 6) := ⟨aG2, nx2, f2, g2, T2, W2, hat2, h62, rfl⟩
  refine q_resp (Rs' := [[(h0, .inr (5, [.ref aO, .ref aY, .ref aN, .int hsn, .ref aT, .ref aK]))], wO_28, wA_28, wB_28, wL_28, [(aY, .inr (1, [.ref aG2, .int (nI nx2), .int (nI sv.dropLast.length)])), (aG2, .inl (cG, 6, .inr (.inr (.inr (.inr f2)))))], (k_flat W2 6)]) (by simp [k_Hc]) ?_
  refine q_aload_n C dX6_undo_31 32 0 rfl rfl ?_
  refine q_get (k := 0) (j := 0) (f := 1) C hinX6 f19 (fun _ h => h) (by decide) rfl dX6_undo_32 35 rfl rfl rfl rfl ?_
  refine q_getN (k := 5) (j := 0) (f := 2) C hinX1 f180 (fun _ h => h) (by decide) rfl dX6_undo_35 38 rfl rfl rfl rfl ?_
  refine q_resp (Rs' := [[(h0, .inr (5, [.ref aO, .ref aY, .ref aN, .int hsn, .ref aT, .ref aK]))], wO_28, wA_28, wB_28, wL_28, (k_Hc cG aY aG2 nx2 sv.dropLast.length f2 ++ k_flat W2 6)]) (by simp [k_Hc]) ?_
  exact q_iret C B dX6_undo_38 rfl rfl (fun t0 ht0 => ⟨by rw [List.length_dropLast], _, hwO_28, _, hwA_28, _, hwB_28, _, hwL_28, _, hHd, rfl⟩)

set_option maxHeartbeats 400000 in
set_option maxRecDepth 100000 in
theorem c_X6_keep (l : Launch) {D : va_G} {tys : List (ClassId × FieldType)} {Z : (Nat → Prop) → State → Heap → Prop} (hZ : q_St Z) {cI : ClassId} (hI : tys[0]? = some (cI, .int)) (hN : q_Ns Z) (h0 : Nat) (aO : Nat) (aY : Nat) (aN : Nat) (hsn : Int32) (aT : Nat) (aK : Nat) (wX : va_W) (hX : k_isX cI h0 aO aY aN hsn aT aK wX) (aB : Nat) (aL : Nat) (aS : Nat) (sc : Nat → Int32) (wO : va_W) (hO : k_isO cI aO aB aL aS sc wO) (wA : va_W) (hA : k_isA cI aS sc wA) (bx : k_Bx) (at0 : Nat) (wB : va_W) (hB : k_isB cI aB bx at0 wB) (ln : List (Nat × Nat)) (wL : va_W) (hL : k_isL cI aL ln wL) (naB : Nat) (naL : Nat) (naS : Nat) (nsc : Nat → Int32) (nwO : va_W) (nhO : k_isO cI aN naB naL naS nsc nwO) (nwA : va_W) (nhA : k_isA cI naS nsc nwA) (nbx : k_Bx) (nat0 : Nat) (nwB : va_W) (nhB : k_isB cI naB nbx nat0 nwB) (nln : List (Nat × Nat)) (nwL : va_W) (nhL : k_isL cI naL nln nwL) : q_Ct l D tys Z yX6_keep wsX6_keep ({ frames := 3, cells := 0, slots := 0, locals := 102 } : Room) 0 0 [.ref h0] [wX, wO, wA, wB, wL, nwO, nwA, nwB, nwL] (fun v0 R0 _ => v0 = some (.int (nI ln.length)) ∧ ∃ wX', k_isX cI h0 aO aY aN ((nI 1)) aT aK wX' ∧ ∃ nwO', k_isO cI aN naB naL naS sc nwO' ∧ ∃ nwA', k_isA cI naS sc nwA' ∧ ∃ nwB', k_isB cI naB bx at0 nwB' ∧ ∃ nwL', k_isL cI naL ln nwL' ∧ R0 = [wX', wO, wA, wB, wL, nwO', nwA', nwB', nwL']) := by
  have hcI := hI
  refine q_ct (cc := cX6_keep) (maxL := 1) (ret := (some .int)) (own := RX6) (by decide) rfl hZ (Nat.le_of_ble_eq_true rfl) rfl ?_
  intro p9 e9 R s9 m9 args below meth c9 A Q C B
  have hts := C.2.2.2.2.1
  have hinX6 : ∀ w ∈ u_ws RX6 TX6 6, w ∈ wsX6_keep := by decide +kernel
  have f23 := hts (.fieldLink RX6 23 "SortCases" "snapshot" "LSortCases$State;") (by decide +kernel)
  have f12 := hts (.fieldLink RX6 12 "SortCases" "state" "LSortCases$State;") (by decide +kernel)
  have f26 := hts (.fieldLink RX6 26 "SortCases" "hasSnapshot" "Z") (by decide +kernel)
  have hinX4 : ∀ w ∈ u_ws RX4 TX4 11, w ∈ wsX6_keep := by decide +kernel
  have f79 := q_nsb hN C (by decide +kernel : Cond.fieldLinkNest "SortCases" 79 "SortCases$State" "line" "LSortCases$Line;" "SortCases" ∈ q_nest) rfl
  have hinX2 : ∀ w ∈ u_ws RX2 TX2 3, w ∈ wsX6_keep := by decide +kernel
  have f191 := q_nsb hN C (by decide +kernel : Cond.fieldLinkNest "SortCases" 191 "SortCases$Line" "length" "I" "SortCases" ∈ q_nest) rfl
  refine q_eqL (L' := [(0, .ref h0)]) rfl ?_
  refine q_aload_n C dX6_keep_0 1 0 rfl rfl ?_
  obtain rfl := hX
  have hXox1 : k_isX cI h0 aO aY aN hsn aT aK [(h0, .inr (5, [.ref aO, .ref aY, .ref aN, .int hsn, .ref aT, .ref aK]))] := rfl
  refine q_get (k := 0) (j := 0) (f := 2) C hinX6 f23 (fun _ h => h) (by decide) rfl dX6_keep_1 4 rfl rfl rfl rfl ?_
  refine q_aload_n C dX6_keep_4 5 0 rfl rfl ?_
  refine q_get (k := 0) (j := 0) (f := 0) C hinX6 f12 (fun _ h => h) (by decide) rfl dX6_keep_5 8 rfl rfl rfl rfl ?_
  refine q_callV (k := 5) (ci := 3) (n := 1) (rest := []) (Rr := [[(h0, .inr (5, [.ref aO, .ref aY, .ref aN, .int hsn, .ref aT, .ref aK]))]]) C rfl (k_isO_recv nhO) rfl (c_X4_copyFrom l hZ hI aN naB naL naS nsc nwO nhO nwA nhA nbx nat0 nwB nhB nln nwL nhL aO aB aL aS sc wO hO wA hA bx at0 wB hB ln wL hL) gX6_keep_X4_copyFrom rfl rfl rfl (by decide +kernel) B.1 ⟨Nat.le_of_ble_eq_true rfl, Nat.le_of_ble_eq_true rfl⟩ rfl rfl (Nat.le_of_ble_eq_true rfl) dX6_keep_8 ⟨(Nat.le_of_ble_eq_true rfl), (Nat.le_of_ble_eq_true rfl)⟩ [5, 6, 7, 8, 1, 2, 3, 4] [0] (by decide : ([5, 6, 7, 8, 1, 2, 3, 4] ++ ([0] : List Nat)).Perm (List.range 9)) rfl rfl 11 rfl (fun v0 R0 t0 ht0 hp0 => ?_)
  obtain ⟨rfl, wO_8, hwO_8, wA_8, hwA_8, wB_8, hwB_8, wL_8, hwL_8, rfl⟩ := hp0
  refine q_eqs (st' := []) rfl ?_
  refine q_reord [8, 4, 5, 6, 7, 0, 1, 2, 3] (by decide : ([8, 4, 5, 6, 7, 0, 1, 2, 3] : List Nat).Perm (List.range 9)) (Rs' := [[(h0, .inr (5, [.ref aO, .ref aY, .ref aN, .int hsn, .ref aT, .ref aK]))], wO, wA, wB, wL, wO_8, wA_8, wB_8, wL_8]) rfl rfl ?_
  refine q_aload_n C dX6_keep_11 12 0 rfl rfl ?_
  refine q_iconst (v := nI 1) C dX6_keep_12 13 rfl (by decide) ?_
  refine q_put (k := 0) (j := 0) (f := 3) C hinX6 tyX6 tyX6_ok nmX6 f26 (fun _ h => h) (by decide) rfl rfl (tyX6_ok 3 (by decide)) rfl rfl dX6_keep_13 16 rfl rfl rfl (Nat.le_of_ble_eq_true rfl) [[(h0, .inr (5, [.ref aO, .ref aY, .ref aN, .int (nI 1), .ref aT, .ref aK]))], wO, wA, wB, wL, wO_8, wA_8, wB_8, wL_8] rfl ?_
  have hXk : k_isX cI h0 aO aY aN ((nI 1)) aT aK [(h0, .inr (5, [.ref aO, .ref aY, .ref aN, .int (nI 1), .ref aT, .ref aK]))] := rfl
  refine q_aload_n C dX6_keep_16 17 0 rfl rfl ?_
  refine q_get (k := 0) (j := 0) (f := 0) C hinX6 f12 (fun _ h => h) (by decide) rfl dX6_keep_17 20 rfl rfl rfl rfl ?_
  obtain rfl := hO
  have hOox2 : k_isO cI aO aB aL aS sc [(aO, .inr (3, [.ref aB, .ref aL, .ref aS, .int (sc 3), .int (sc 5), .int (sc 6), .int (sc 7), .int (sc 8), .int (sc 9), .int (sc 10), .int (sc 11)]))] := rfl
  refine q_getN (k := 1) (j := 0) (f := 1) C hinX4 f79 (fun _ h => h) (by decide) rfl dX6_keep_20 23 rfl rfl rfl rfl ?_
  obtain ⟨hlokx3, hsx3, hlx3, f1x3, f2x3, hrelx3, rfl⟩ := hL
  have hlenx3 := hlokx3.1
  have hLx3 : k_isL cI aL ln [(aL, .inr (2, [.ref hsx3, .ref hlx3, .int (nI ln.length)])), (hsx3, .inl (cI, 72, .inl f1x3)), (hlx3, .inl (cI, 72, .inl f2x3))] := ⟨hlokx3, hsx3, hlx3, f1x3, f2x3, hrelx3, rfl⟩
  refine q_getN (k := 4) (j := 0) (f := 2) C hinX2 f191 (fun _ h => h) (by decide) rfl dX6_keep_23 26 rfl rfl rfl rfl ?_
  exact q_iret C B dX6_keep_26 rfl rfl (fun t0 ht0 => ⟨rfl, _, hXk, _, hwO_8, _, hwA_8, _, hwB_8, _, hwL_8, by first | rfl | simp⟩)

set_option maxHeartbeats 400000 in
set_option maxRecDepth 100000 in
theorem c_X6_restore_b (l : Launch) {D : va_G} {tys : List (ClassId × FieldType)} {Z : (Nat → Prop) → State → Heap → Prop} (hZ : q_St Z) {cI : ClassId} (hI : tys[0]? = some (cI, .int)) (hN : q_Ns Z) {cG : ClassId} (hG : tys[1]? = some (cG, .object "SortCases$State")) (h0 : Nat) (aO : Nat) (aY : Nat) (aN : Nat) (hsn : Int32) (aT : Nat) (aK : Nat) (wX : va_W) (hX : k_isX cI h0 aO aY aN hsn aT aK wX) (aB : Nat) (aL : Nat) (aS : Nat) (sc : Nat → Int32) (wO : va_W) (hO : k_isO cI aO aB aL aS sc wO) (wA : va_W) (hA : k_isA cI aS sc wA) (bx : k_Bx) (at0 : Nat) (wB : va_W) (hB : k_isB cI aB bx at0 wB) (ln : List (Nat × Nat)) (wL : va_W) (hL : k_isL cI aL ln wL) (sv : List k_S) (wH : va_W) (hH : k_isH cG cI aY sv wH) (naB : Nat) (naL : Nat) (naS : Nat) (nsc : Nat → Int32) (nwO : va_W) (nhO : k_isO cI aN naB naL naS nsc nwO) (nwA : va_W) (nhA : k_isA cI naS nsc nwA) (nbx : k_Bx) (nat0 : Nat) (nwB : va_W) (nhB : k_isB cI naB nbx nat0 nwB) (nln : List (Nat × Nat)) (nwL : va_W) (nhL : k_isL cI naL nln nwL) (hsn1 : hsn = nI 1) : q_Ct l D tys Z yX6_restore wsX6_restore ({ frames := 4, cells := 0, slots := 0, locals := 132 } : Room) 0 0 [.ref h0] [wX, wO, wA, wB, wL, wH, nwO, nwA, nwB, nwL] (fun v0 R0 _ => v0 = some (.int (nI nln.length)) ∧ ∃ wO', k_isO cI aO aB aL aS nsc wO' ∧ ∃ wA', k_isA cI aS nsc wA' ∧ ∃ wB', k_isB cI aB nbx nat0 wB' ∧ ∃ wL', k_isL cI aL nln wL' ∧ ∃ wH', k_isH cG cI aY ((k_sav sv (bx, at0, ln, sc))) wH' ∧ R0 = [wX, wO', wA', wB', wL', wH', nwO, nwA, nwB, nwL]) := by
  have hcI := hI
  have hcG := hG
  refine q_ct (cc := cX6_restore) (maxL := 1) (ret := (some .int)) (own := RX6) (by decide) rfl hZ (Nat.le_of_ble_eq_true rfl) rfl ?_
  intro p9 e9 R s9 m9 args below meth c9 A Q C B
  have hts := C.2.2.2.2.1
  have hinX6 : ∀ w ∈ u_ws RX6 TX6 6, w ∈ wsX6_restore := by decide +kernel
  have f26 := hts (.fieldLink RX6 26 "SortCases" "hasSnapshot" "Z") (by decide +kernel)
  have f19 := hts (.fieldLink RX6 19 "SortCases" "history" "LSortCases$History;") (by decide +kernel)
  have f12 := hts (.fieldLink RX6 12 "SortCases" "state" "LSortCases$State;") (by decide +kernel)
  have f23 := hts (.fieldLink RX6 23 "SortCases" "snapshot" "LSortCases$State;") (by decide +kernel)
  have hinX4 : ∀ w ∈ u_ws RX4 TX4 11, w ∈ wsX6_restore := by decide +kernel
  have f79 := q_nsb hN C (by decide +kernel : Cond.fieldLinkNest "SortCases" 79 "SortCases$State" "line" "LSortCases$Line;" "SortCases" ∈ q_nest) rfl
  have hinX2 : ∀ w ∈ u_ws RX2 TX2 3, w ∈ wsX6_restore := by decide +kernel
  have f191 := q_nsb hN C (by decide +kernel : Cond.fieldLinkNest "SortCases" 191 "SortCases$Line" "length" "I" "SortCases" ∈ q_nest) rfl
  refine q_eqL (L' := [(0, .ref h0)]) rfl ?_
  refine q_aload_n C dX6_restore_0 1 0 rfl rfl ?_
  obtain rfl := hX
  have hXox1 : k_isX cI h0 aO aY aN hsn aT aK [(h0, .inr (5, [.ref aO, .ref aY, .ref aN, .int hsn, .ref aT, .ref aK]))] := rfl
  refine q_get (k := 0) (j := 0) (f := 3) C hinX6 f26 (fun _ h => h) (by decide) rfl dX6_restore_1 4 rfl rfl rfl rfl ?_
  refine q_eqs (st' := [.int (nI 1)]) (by show ([.int hsn] : List Value) = _; rw [hsn1]) ?_
  refine q_if_ne C dX6_restore_4 7 17 rfl (by decide) (q_eq0 (by omega)) (fun h4 => ?_) (fun h4 => False.elim (by first | omega | simp_all))
  refine q_aload_n C dX6_restore_17 18 0 rfl rfl ?_
  refine q_get (k := 0) (j := 0) (f := 1) C hinX6 f19 (fun _ h => h) (by decide) rfl dX6_restore_18 21 rfl rfl rfl rfl ?_
  refine q_aload_n C dX6_restore_21 22 0 rfl rfl ?_
  refine q_get (k := 0) (j := 0) (f := 0) C hinX6 f12 (fun _ h => h) (by decide) rfl dX6_restore_22 25 rfl rfl rfl rfl ?_
  refine q_callV (k := 5) (ci := 1) (n := 1) (rest := []) (Rr := [[(h0, .inr (5, [.ref aO, .ref aY, .ref aN, .int hsn, .ref aT, .ref aK]))], nwO, nwA, nwB, nwL]) C rfl (k_isH_recv hH) rfl (c_X1_save l hZ hI hG aY sv wH hH aO aB aL aS sc wO hO wA hA bx at0 wB hB ln wL hL) gX6_restore_X1_save rfl rfl rfl (by decide +kernel) B.1 ⟨Nat.le_of_ble_eq_true rfl, Nat.le_of_ble_eq_true rfl⟩ rfl rfl (Nat.le_of_ble_eq_true rfl) dX6_restore_25 ⟨(Nat.le_of_ble_eq_true rfl), (Nat.le_of_ble_eq_true rfl)⟩ [5, 1, 2, 3, 4] [0, 6, 7, 8, 9] (by decide : ([5, 1, 2, 3, 4] ++ ([0, 6, 7, 8, 9] : List Nat)).Perm (List.range 10)) rfl rfl 28 rfl (fun v0 R0 t0 ht0 hp0 => ?_)
  obtain ⟨rfl, wH_25, hwH_25, rfl⟩ := hp0
  refine q_eqs (st' := []) rfl ?_
  refine q_reord [5, 1, 2, 3, 4, 0, 6, 7, 8, 9] (by decide : ([5, 1, 2, 3, 4, 0, 6, 7, 8, 9] : List Nat).Perm (List.range 10)) (Rs' := [[(h0, .inr (5, [.ref aO, .ref aY, .ref aN, .int hsn, .ref aT, .ref aK]))], wO, wA, wB, wL, wH_25, nwO, nwA, nwB, nwL]) rfl rfl ?_
  refine q_aload_n C dX6_restore_28 29 0 rfl rfl ?_
  refine q_get (k := 0) (j := 0) (f := 0) C hinX6 f12 (fun _ h => h) (by decide) rfl dX6_restore_29 32 rfl rfl rfl rfl ?_
  refine q_aload_n C dX6_restore_32 33 0 rfl rfl ?_
  refine q_get (k := 0) (j := 0) (f := 2) C hinX6 f23 (fun _ h => h) (by decide) rfl dX6_restore_33 36 rfl rfl rfl rfl ?_
  refine q_callV (k := 1) (ci := 3) (n := 1) (rest := []) (Rr := [[(h0, .inr (5, [.ref aO, .ref aY, .ref aN, .int hsn, .ref aT, .ref aK]))], wH_25]) C rfl (k_isO_recv hO) rfl (c_X4_copyFrom l hZ hI aO aB aL aS sc wO hO wA hA bx at0 wB hB ln wL hL aN naB naL naS nsc nwO nhO nwA nhA nbx nat0 nwB nhB nln nwL nhL) gX6_restore_X4_copyFrom rfl rfl rfl (by decide +kernel) B.1 ⟨Nat.le_of_ble_eq_true rfl, Nat.le_of_ble_eq_true rfl⟩ rfl rfl (Nat.le_of_ble_eq_true rfl) dX6_restore_36 ⟨(Nat.le_of_ble_eq_true rfl), (Nat.le_of_ble_eq_true rfl)⟩ [1, 2, 3, 4, 6, 7, 8, 9] [0, 5] (by decide : ([1, 2, 3, 4, 6, 7, 8, 9] ++ ([0, 5] : List Nat)).Perm (List.range 10)) rfl rfl 39 rfl (fun v0 R0 t0 ht0 hp0 => ?_)
  obtain ⟨rfl, wO_36, hwO_36, wA_36, hwA_36, wB_36, hwB_36, wL_36, hwL_36, rfl⟩ := hp0
  refine q_eqs (st' := []) rfl ?_
  refine q_reord [8, 0, 1, 2, 3, 9, 4, 5, 6, 7] (by decide : ([8, 0, 1, 2, 3, 9, 4, 5, 6, 7] : List Nat).Perm (List.range 10)) (Rs' := [[(h0, .inr (5, [.ref aO, .ref aY, .ref aN, .int hsn, .ref aT, .ref aK]))], wO_36, wA_36, wB_36, wL_36, wH_25, nwO, nwA, nwB, nwL]) rfl rfl ?_
  refine q_aload_n C dX6_restore_39 40 0 rfl rfl ?_
  refine q_get (k := 0) (j := 0) (f := 0) C hinX6 f12 (fun _ h => h) (by decide) rfl dX6_restore_40 43 rfl rfl rfl rfl ?_
  obtain rfl := hwO_36
  have hOox2 : k_isO cI aO aB aL aS nsc [(aO, .inr (3, [.ref aB, .ref aL, .ref aS, .int (nsc 3), .int (nsc 5), .int (nsc 6), .int (nsc 7), .int (nsc 8), .int (nsc 9), .int (nsc 10), .int (nsc 11)]))] := rfl
  refine q_getN (k := 1) (j := 0) (f := 1) C hinX4 f79 (fun _ h => h) (by decide) rfl dX6_restore_43 46 rfl rfl rfl rfl ?_
  obtain ⟨hlokx3, hsx3, hlx3, f1x3, f2x3, hrelx3, rfl⟩ := hwL_36
  have hlenx3 := hlokx3.1
  have hLx3 : k_isL cI aL nln [(aL, .inr (2, [.ref hsx3, .ref hlx3, .int (nI nln.length)])), (hsx3, .inl (cI, 72, .inl f1x3)), (hlx3, .inl (cI, 72, .inl f2x3))] := ⟨hlokx3, hsx3, hlx3, f1x3, f2x3, hrelx3, rfl⟩
  refine q_getN (k := 4) (j := 0) (f := 2) C hinX2 f191 (fun _ h => h) (by decide) rfl dX6_restore_46 49 rfl rfl rfl rfl ?_
  exact q_iret C B dX6_restore_49 rfl rfl (fun t0 ht0 => ⟨rfl, _, hOox2, _, hwA_36, _, hwB_36, _, hLx3, _, hwH_25, by first | rfl | simp⟩)

set_option maxHeartbeats 400000 in
set_option maxRecDepth 100000 in
theorem c_X6_box_c (l : Launch) {D : va_G} {tys : List (ClassId × FieldType)} {Z : (Nat → Prop) → State → Heap → Prop} (hZ : q_St Z) {cI : ClassId} (hI : tys[0]? = some (cI, .int)) (hN : q_Ns Z) (h0 : Nat) (aO : Nat) (aY : Nat) (aN : Nat) (hsn : Int32) (aT : Nat) (aK : Nat) (wX : va_W) (hX : k_isX cI h0 aO aY aN hsn aT aK wX) (aB : Nat) (aL : Nat) (aS : Nat) (sc : Nat → Int32) (wO : va_W) (hO : k_isO cI aO aB aL aS sc wO) (wA : va_W) (hA : k_isA cI aS sc wA) (bx : k_Bx) (at0 : Nat) (wB : va_W) (hB : k_isB cI aB bx at0 wB) (b : Nat) (i : Nat) (hb : b < 12) (hi : i < 7) : q_Ct l D tys Z yX6_box wsX6_box ({ frames := 5, cells := 0, slots := 0, locals := 162 } : Room) 0 0 [.ref h0, .int (nI b), .int (nI i)] [wX, wO, wA, wB] (fun v0 R0 _ => v0 = some (.int (k_tb bx at0 sc b i)) ∧ R0 = [wX, wO, wA, wB]) := by
  have hcI := hI
  refine q_ct (cc := cX6_box) (maxL := 3) (ret := (some .int)) (own := RX6) (by decide) rfl hZ (Nat.le_of_ble_eq_true rfl) rfl ?_
  intro p9 e9 R s9 m9 args below meth c9 A Q C B
  have hts := C.2.2.2.2.1
  refine q_eqL (L' := [(0, .ref h0), (1, .int (nI b)), (2, .int (nI i))]) rfl ?_
  refine q_iload_n C dX6_box_0 1 1 rfl rfl ?_
  refine q_callS (n := 1) (rest := []) (Rr := [wX, wO, wA, wB]) C (c_X6_isSort l hZ hI (nI b)) gX6_box_X6_isSort rfl rfl rfl (by decide +kernel) B.1 ⟨Nat.le_of_ble_eq_true rfl, Nat.le_of_ble_eq_true rfl⟩ rfl rfl (Nat.le_of_ble_eq_true rfl) dX6_box_1 ⟨(Nat.le_of_ble_eq_true rfl), (Nat.le_of_ble_eq_true rfl)⟩ [] [0, 1, 2, 3] (by decide : ([] ++ ([0, 1, 2, 3] : List Nat)).Perm (List.range 4)) rfl rfl 4 rfl (fun v0 R0 t0 ht0 hp0 => ?_)
  obtain ⟨rfl, rfl⟩ := hp0
  refine q_eqs (st' := [.int (q_b (decide (0 ≤ (nI b) ∧ (nI b) < 12)))]) rfl ?_
  refine q_eqR (Rs' := [wX, wO, wA, wB]) rfl ?_
  refine q_if_ne (P := ¬ (0 ≤ (nI b) ∧ (nI b) < 12)) C dX6_box_4 7 17 rfl (by decide) q_bd0 (fun h4 => ?_) (fun h4 => False.elim (h4 (k_ss (by omega))))
  refine q_iload_n C dX6_box_17 18 2 rfl rfl ?_
  refine q_if_lt C dX6_box_18 21 27 rfl (by decide) (q_lt0 (by omega)) (fun h18 => False.elim (by first | omega | simp_all)) (fun h18 => ?_)
  refine q_iload_n C dX6_box_21 22 2 rfl rfl ?_
  refine q_bipush (v := nI 7) C dX6_box_22 24 rfl (by decide) ?_
  refine q_icmp_lt C dX6_box_24 27 37 rfl (by decide) (nI_ltI (by omega) (by omega)) (fun h24 => ?_) (fun h24 => False.elim (by first | omega | simp_all))
  refine q_aload_n C dX6_box_37 38 0 rfl rfl ?_
  refine q_iload_n C dX6_box_38 39 1 rfl rfl ?_
  refine q_iload_n C dX6_box_39 40 2 rfl rfl ?_
  refine q_callV (k := 0) (ci := 5) (n := 2) (rest := []) (Rr := []) C rfl (k_isX_recv hX) rfl (c_X6_numberOfBox l hZ hI hN h0 aO aY aN hsn aT aK wX hX aB aL aS sc wO hO wA hA bx at0 wB hB b i (by omega) (by omega)) gX6_box_X6_numberOfBox rfl rfl rfl (by decide +kernel) B.1 ⟨Nat.le_of_ble_eq_true rfl, Nat.le_of_ble_eq_true rfl⟩ rfl rfl (Nat.le_of_ble_eq_true rfl) dX6_box_40 ⟨(Nat.le_of_ble_eq_true rfl), (Nat.le_of_ble_eq_true rfl)⟩ [0, 1, 2, 3] [] (by decide : ([0, 1, 2, 3] ++ ([] : List Nat)).Perm (List.range 4)) rfl rfl 43 rfl (fun v0 R0 t0 ht0 hp0 => ?_)
  obtain ⟨rfl, rfl⟩ := hp0
  refine q_eqs (st' := [.int (k_tb bx at0 sc b i)]) rfl ?_
  refine q_eqR (Rs' := [wX, wO, wA, wB]) rfl ?_
  exact q_iret C B dX6_box_43 rfl rfl (fun t0 ht0 => ⟨rfl, rfl⟩)

set_option maxHeartbeats 400000 in
set_option maxRecDepth 100000 in
theorem c_X6_type_c (l : Launch) {D : va_G} {tys : List (ClassId × FieldType)} {Z : (Nat → Prop) → State → Heap → Prop} (hZ : q_St Z) {cI : ClassId} (hI : tys[0]? = some (cI, .int)) (hN : q_Ns Z) (h0 : Nat) (aO : Nat) (aY : Nat) (aN : Nat) (hsn : Int32) (aT : Nat) (aK : Nat) (wX : va_W) (hX : k_isX cI h0 aO aY aN hsn aT aK wX) (aB : Nat) (aL : Nat) (aS : Nat) (sc : Nat → Int32) (wO : va_W) (hO : k_isO cI aO aB aL aS sc wO) (wA : va_W) (hA : k_isA cI aS sc wA) (bx : k_Bx) (at0 : Nat) (wB : va_W) (hB : k_isB cI aB bx at0 wB) (b : Nat) (d : Nat) (hb : b < 12) (hd : d < 2147483648) : q_Ct l D tys Z yX6_type wsX6_type ({ frames := 2, cells := 0, slots := 0, locals := 72 } : Room) 0 0 [.ref h0, .int (nI b), .int (nI d)] [wX, wO, wA, wB] (fun v0 R0 _ => v0 = some (.int (k_top bx b d)) ∧ R0 = [wX, wO, wA, wB]) := by
  have hcI := hI
  refine q_ct (cc := cX6_type) (maxL := 3) (ret := (some .int)) (own := RX6) (by decide) rfl hZ (Nat.le_of_ble_eq_true rfl) rfl ?_
  intro p9 e9 R s9 m9 args below meth c9 A Q C B
  have hts := C.2.2.2.2.1
  have hinX6 : ∀ w ∈ u_ws RX6 TX6 6, w ∈ wsX6_type := by decide +kernel
  have f12 := hts (.fieldLink RX6 12 "SortCases" "state" "LSortCases$State;") (by decide +kernel)
  have hinX4 : ∀ w ∈ u_ws RX4 TX4 11, w ∈ wsX6_type := by decide +kernel
  have f111 := q_nsb hN C (by decide +kernel : Cond.fieldLinkNest "SortCases" 111 "SortCases$State" "boxes" "LSortCases$Boxes;" "SortCases" ∈ q_nest) rfl
  refine q_eqL (L' := [(0, .ref h0), (1, .int (nI b)), (2, .int (nI d))]) rfl ?_
  refine q_iload_n C dX6_type_0 1 1 rfl rfl ?_
  refine q_callS (n := 1) (rest := []) (Rr := [wX, wO, wA, wB]) C (c_X6_isSort l hZ hI (nI b)) gX6_type_X6_isSort rfl rfl rfl (by decide +kernel) B.1 ⟨Nat.le_of_ble_eq_true rfl, Nat.le_of_ble_eq_true rfl⟩ rfl rfl (Nat.le_of_ble_eq_true rfl) dX6_type_1 ⟨(Nat.le_of_ble_eq_true rfl), (Nat.le_of_ble_eq_true rfl)⟩ [] [0, 1, 2, 3] (by decide : ([] ++ ([0, 1, 2, 3] : List Nat)).Perm (List.range 4)) rfl rfl 4 rfl (fun v0 R0 t0 ht0 hp0 => ?_)
  obtain ⟨rfl, rfl⟩ := hp0
  refine q_eqs (st' := [.int (q_b (decide (0 ≤ (nI b) ∧ (nI b) < 12)))]) rfl ?_
  refine q_eqR (Rs' := [wX, wO, wA, wB]) rfl ?_
  refine q_if_ne (P := ¬ (0 ≤ (nI b) ∧ (nI b) < 12)) C dX6_type_4 7 17 rfl (by decide) q_bd0 (fun h4 => ?_) (fun h4 => False.elim (h4 (k_ss (by omega))))
  refine q_iload_n C dX6_type_17 18 2 rfl rfl ?_
  refine q_if_ge C dX6_type_18 21 31 rfl (by decide) (q_ge0 (by omega)) (fun h18 => ?_) (fun h18 => False.elim (by first | omega | simp_all))
  refine q_aload_n C dX6_type_31 32 0 rfl rfl ?_
  obtain rfl := hX
  have hXox1 : k_isX cI h0 aO aY aN hsn aT aK [(h0, .inr (5, [.ref aO, .ref aY, .ref aN, .int hsn, .ref aT, .ref aK]))] := rfl
  refine q_get (k := 0) (j := 0) (f := 0) C hinX6 f12 (fun _ h => h) (by decide) rfl dX6_type_32 35 rfl rfl rfl rfl ?_
  obtain rfl := hO
  have hOox2 : k_isO cI aO aB aL aS sc [(aO, .inr (3, [.ref aB, .ref aL, .ref aS, .int (sc 3), .int (sc 5), .int (sc 6), .int (sc 7), .int (sc 8), .int (sc 9), .int (sc 10), .int (sc 11)]))] := rfl
  refine q_getN (k := 1) (j := 0) (f := 0) C hinX4 f111 (fun _ h => h) (by decide) rfl dX6_type_35 38 rfl rfl rfl rfl ?_
  refine q_iload_n C dX6_type_38 39 1 rfl rfl ?_
  refine q_iload_n C dX6_type_39 40 2 rfl rfl ?_
  refine q_callV (k := 3) (ci := 0) (n := 2) (rest := []) (Rr := [[(h0, .inr (5, [.ref aO, .ref aY, .ref aN, .int hsn, .ref aT, .ref aK]))], [(aO, .inr (3, [.ref aB, .ref aL, .ref aS, .int (sc 3), .int (sc 5), .int (sc 6), .int (sc 7), .int (sc 8), .int (sc 9), .int (sc 10), .int (sc 11)]))], wA]) C rfl (k_isB_recv hB) rfl (c_X0_typeAt l hZ hI aB bx at0 wB hB b d (by omega) (by omega)) gX6_type_X0_typeAt rfl rfl rfl (by decide +kernel) B.1 ⟨Nat.le_of_ble_eq_true rfl, Nat.le_of_ble_eq_true rfl⟩ rfl rfl (Nat.le_of_ble_eq_true rfl) dX6_type_40 ⟨(Nat.le_of_ble_eq_true rfl), (Nat.le_of_ble_eq_true rfl)⟩ [3] [0, 1, 2] (by decide : ([3] ++ ([0, 1, 2] : List Nat)).Perm (List.range 4)) rfl rfl 43 rfl (fun v0 R0 t0 ht0 hp0 => ?_)
  obtain ⟨rfl, rfl⟩ := hp0
  refine q_eqs (st' := [.int (k_top bx b d)]) rfl ?_
  refine q_reord [1, 2, 3, 0] (by decide : ([1, 2, 3, 0] : List Nat).Perm (List.range 4)) (Rs' := [[(h0, .inr (5, [.ref aO, .ref aY, .ref aN, .int hsn, .ref aT, .ref aK]))], [(aO, .inr (3, [.ref aB, .ref aL, .ref aS, .int (sc 3), .int (sc 5), .int (sc 6), .int (sc 7), .int (sc 8), .int (sc 9), .int (sc 10), .int (sc 11)]))], wA, wB]) rfl rfl ?_
  exact q_iret C B dX6_type_43 rfl rfl (fun t0 ht0 => ⟨rfl, rfl⟩)

set_option maxHeartbeats 400000 in
set_option maxRecDepth 100000 in
theorem c_X6_line_c (l : Launch) {D : va_G} {tys : List (ClassId × FieldType)} {Z : (Nat → Prop) → State → Heap → Prop} (hZ : q_St Z) {cI : ClassId} (hI : tys[0]? = some (cI, .int)) (hN : q_Ns Z) (h0 : Nat) (aO : Nat) (aY : Nat) (aN : Nat) (hsn : Int32) (aT : Nat) (aK : Nat) (wX : va_W) (hX : k_isX cI h0 aO aY aN hsn aT aK wX) (aB : Nat) (aL : Nat) (aS : Nat) (sc : Nat → Int32) (wO : va_W) (hO : k_isO cI aO aB aL aS sc wO) (wA : va_W) (hA : k_isA cI aS sc wA) (bx : k_Bx) (at0 : Nat) (wB : va_W) (hB : k_isB cI aB bx at0 wB) (ln : List (Nat × Nat)) (wL : va_W) (hL : k_isL cI aL ln wL) (k : Nat) (i : Nat) (hk : k < ln.length) (hkh : k_has ln (nI k) = true) (hi : i < 4) : q_Ct l D tys Z yX6_line wsX6_line ({ frames := 5, cells := 0, slots := 0, locals := 162 } : Room) 0 0 [.ref h0, .int (nI k), .int (nI i)] [wX, wO, wA, wB, wL] (fun v0 R0 _ => v0 = some (.int (k_tp bx ln sc k i)) ∧ R0 = [wX, wO, wA, wB, wL]) := by
  have hcI := hI
  refine q_ct (cc := cX6_line) (maxL := 3) (ret := (some .int)) (own := RX6) (by decide) rfl hZ (Nat.le_of_ble_eq_true rfl) rfl ?_
  intro p9 e9 R s9 m9 args below meth c9 A Q C B
  have hts := C.2.2.2.2.1
  have hinX6 : ∀ w ∈ u_ws RX6 TX6 6, w ∈ wsX6_line := by decide +kernel
  have f12 := hts (.fieldLink RX6 12 "SortCases" "state" "LSortCases$State;") (by decide +kernel)
  have hinX4 : ∀ w ∈ u_ws RX4 TX4 11, w ∈ wsX6_line := by decide +kernel
  have f79 := q_nsb hN C (by decide +kernel : Cond.fieldLinkNest "SortCases" 79 "SortCases$State" "line" "LSortCases$Line;" "SortCases" ∈ q_nest) rfl
  refine q_eqL (L' := [(0, .ref h0), (1, .int (nI k)), (2, .int (nI i))]) rfl ?_
  refine q_aload_n C dX6_line_0 1 0 rfl rfl ?_
  obtain rfl := hX
  have hXox1 : k_isX cI h0 aO aY aN hsn aT aK [(h0, .inr (5, [.ref aO, .ref aY, .ref aN, .int hsn, .ref aT, .ref aK]))] := rfl
  refine q_get (k := 0) (j := 0) (f := 0) C hinX6 f12 (fun _ h => h) (by decide) rfl dX6_line_1 4 rfl rfl rfl rfl ?_
  obtain rfl := hO
  have hOox2 : k_isO cI aO aB aL aS sc [(aO, .inr (3, [.ref aB, .ref aL, .ref aS, .int (sc 3), .int (sc 5), .int (sc 6), .int (sc 7), .int (sc 8), .int (sc 9), .int (sc 10), .int (sc 11)]))] := rfl
  refine q_getN (k := 1) (j := 0) (f := 1) C hinX4 f79 (fun _ h => h) (by decide) rfl dX6_line_4 7 rfl rfl rfl rfl ?_
  refine q_iload_n C dX6_line_7 8 1 rfl rfl ?_
  refine q_callV (k := 4) (ci := 2) (n := 1) (rest := []) (Rr := [[(h0, .inr (5, [.ref aO, .ref aY, .ref aN, .int hsn, .ref aT, .ref aK]))], [(aO, .inr (3, [.ref aB, .ref aL, .ref aS, .int (sc 3), .int (sc 5), .int (sc 6), .int (sc 7), .int (sc 8), .int (sc 9), .int (sc 10), .int (sc 11)]))], wA, wB]) C rfl (k_isL_recv hL) rfl (c_X2_has l hZ hI aL ln wL hL (nI k)) gX6_line_X2_has rfl rfl rfl (by decide +kernel) B.1 ⟨Nat.le_of_ble_eq_true rfl, Nat.le_of_ble_eq_true rfl⟩ rfl rfl (Nat.le_of_ble_eq_true rfl) dX6_line_8 ⟨(Nat.le_of_ble_eq_true rfl), (Nat.le_of_ble_eq_true rfl)⟩ [4] [0, 1, 2, 3] (by decide : ([4] ++ ([0, 1, 2, 3] : List Nat)).Perm (List.range 5)) rfl rfl 11 rfl (fun v0 R0 t0 ht0 hp0 => ?_)
  obtain ⟨rfl, rfl⟩ := hp0
  refine q_eqs (st' := [.int (q_b (k_has ln (nI k)))]) rfl ?_
  refine q_reord [1, 2, 3, 4, 0] (by decide : ([1, 2, 3, 4, 0] : List Nat).Perm (List.range 5)) (Rs' := [[(h0, .inr (5, [.ref aO, .ref aY, .ref aN, .int hsn, .ref aT, .ref aK]))], [(aO, .inr (3, [.ref aB, .ref aL, .ref aS, .int (sc 3), .int (sc 5), .int (sc 6), .int (sc 7), .int (sc 8), .int (sc 9), .int (sc 10), .int (sc 11)]))], wA, wB, wL]) rfl rfl ?_
  refine q_if_ne (P := k_has ln (nI k) = false) C dX6_line_11 14 24 rfl (by decide) q_b0 (fun h11 => ?_) (fun h11 => False.elim (by rw [h11] at hkh; cases hkh))
  refine q_iload_n C dX6_line_24 25 2 rfl rfl ?_
  refine q_if_lt C dX6_line_25 28 33 rfl (by decide) (q_lt0 (by omega)) (fun h25 => False.elim (by first | omega | simp_all)) (fun h25 => ?_)
  refine q_iload_n C dX6_line_28 29 2 rfl rfl ?_
  refine q_iconst (v := nI 4) C dX6_line_29 30 rfl (by decide) ?_
  refine q_icmp_lt C dX6_line_30 33 43 rfl (by decide) (nI_ltI (by omega) (by omega)) (fun h30 => ?_) (fun h30 => False.elim (by first | omega | simp_all))
  refine q_aload_n C dX6_line_43 44 0 rfl rfl ?_
  refine q_iload_n C dX6_line_44 45 1 rfl rfl ?_
  refine q_iload_n C dX6_line_45 46 2 rfl rfl ?_
  refine q_callV (k := 0) (ci := 5) (n := 2) (rest := []) (Rr := []) C rfl (k_isX_recv hXox1) rfl (c_X6_numberOfPlace l hZ hI hN h0 aO aY aN hsn aT aK ([(h0, .inr (5, [.ref aO, .ref aY, .ref aN, .int hsn, .ref aT, .ref aK]))]) hXox1 aB aL aS sc ([(aO, .inr (3, [.ref aB, .ref aL, .ref aS, .int (sc 3), .int (sc 5), .int (sc 6), .int (sc 7), .int (sc 8), .int (sc 9), .int (sc 10), .int (sc 11)]))]) hOox2 wA hA bx at0 wB hB ln wL hL k i (by omega) (by omega)) gX6_line_X6_numberOfPlace rfl rfl rfl (by decide +kernel) B.1 ⟨Nat.le_of_ble_eq_true rfl, Nat.le_of_ble_eq_true rfl⟩ rfl rfl (Nat.le_of_ble_eq_true rfl) dX6_line_46 ⟨(Nat.le_of_ble_eq_true rfl), (Nat.le_of_ble_eq_true rfl)⟩ [0, 1, 2, 3, 4] [] (by decide : ([0, 1, 2, 3, 4] ++ ([] : List Nat)).Perm (List.range 5)) rfl rfl 49 rfl (fun v0 R0 t0 ht0 hp0 => ?_)
  obtain ⟨rfl, rfl⟩ := hp0
  refine q_eqs (st' := [.int (k_tp bx ln sc k i)]) rfl ?_
  refine q_eqR (Rs' := [[(h0, .inr (5, [.ref aO, .ref aY, .ref aN, .int hsn, .ref aT, .ref aK]))], [(aO, .inr (3, [.ref aB, .ref aL, .ref aS, .int (sc 3), .int (sc 5), .int (sc 6), .int (sc 7), .int (sc 8), .int (sc 9), .int (sc 10), .int (sc 11)]))], wA, wB, wL]) rfl ?_
  exact q_iret C B dX6_line_49 rfl rfl (fun t0 ht0 => ⟨rfl, rfl⟩)

set_option maxHeartbeats 400000 in
set_option maxRecDepth 100000 in
theorem c_X6_count_b (l : Launch) {D : va_G} {tys : List (ClassId × FieldType)} {Z : (Nat → Prop) → State → Heap → Prop} (hZ : q_St Z) {cI : ClassId} (hI : tys[0]? = some (cI, .int)) (hN : q_Ns Z) (h0 : Nat) (aO : Nat) (aY : Nat) (aN : Nat) (hsn : Int32) (aT : Nat) (aK : Nat) (wX : va_W) (hX : k_isX cI h0 aO aY aN hsn aT aK wX) (aB : Nat) (aL : Nat) (aS : Nat) (sc : Nat → Int32) (wO : va_W) (hO : k_isO cI aO aB aL aS sc wO) (wA : va_W) (hA : k_isA cI aS sc wA) (bx : k_Bx) (at0 : Nat) (wB : va_W) (hB : k_isB cI aB bx at0 wB) (ln : List (Nat × Nat)) (wL : va_W) (hL : k_isL cI aL ln wL) (aG : Nat) (nx : Nat) (sz : Nat) (wY : va_W) (hY : k_isY cI aY aG nx sz wY) (i : Nat) (hi : i < 18) (hcs : ∀ x, x < 12 → k_cn bx x x + k_cl ln x ≤ 6) (hws : k_ws bx ln = k_wr bx) : q_Ct l D tys Z yX6_count wsX6_count ({ frames := 6, cells := 0, slots := 0, locals := 192 } : Room) 0 0 [.ref h0, .int (nI i)] [wX, wO, wA, wB, wL, wY] (fun v0 R0 _ => v0 = some (.int (k_tc bx at0 ln sc sz i)) ∧ R0 = [wX, wO, wA, wB, wL, wY]) := by
  have hcI := hI
  refine q_ct (cc := cX6_count) (maxL := 2) (ret := (some .int)) (own := RX6) (by decide) rfl hZ (Nat.le_of_ble_eq_true rfl) rfl ?_
  intro p9 e9 R s9 m9 args below meth c9 A Q C B
  have hts := C.2.2.2.2.1
  refine q_eqL (L' := [(0, .ref h0), (1, .int (nI i))]) rfl ?_
  refine q_iload_n C dX6_count_0 1 1 rfl rfl ?_
  refine q_if_lt C dX6_count_1 4 10 rfl (by decide) (q_lt0 (by omega)) (fun h1 => False.elim (by first | omega | simp_all)) (fun h1 => ?_)
  refine q_iload_n C dX6_count_4 5 1 rfl rfl ?_
  refine q_bipush (v := nI 18) C dX6_count_5 7 rfl (by decide) ?_
  refine q_icmp_lt C dX6_count_7 10 20 rfl (by decide) (nI_ltI (by omega) (by omega)) (fun h7 => ?_) (fun h7 => False.elim (by first | omega | simp_all))
  refine q_aload_n C dX6_count_20 21 0 rfl rfl ?_
  refine q_iload_n C dX6_count_21 22 1 rfl rfl ?_
  refine q_callV (k := 0) (ci := 5) (n := 1) (rest := []) (Rr := []) C rfl (k_isX_recv hX) rfl (c_X6_numberOfAll l hZ hI hN h0 aO aY aN hsn aT aK wX hX aB aL aS sc wO hO wA hA bx at0 wB hB ln wL hL aG nx sz wY hY i (by omega) hcs hws) gX6_count_X6_numberOfAll rfl rfl rfl (by decide +kernel) B.1 ⟨Nat.le_of_ble_eq_true rfl, Nat.le_of_ble_eq_true rfl⟩ rfl rfl (Nat.le_of_ble_eq_true rfl) dX6_count_22 ⟨(Nat.le_of_ble_eq_true rfl), (Nat.le_of_ble_eq_true rfl)⟩ [0, 1, 2, 3, 4, 5] [] (by decide : ([0, 1, 2, 3, 4, 5] ++ ([] : List Nat)).Perm (List.range 6)) rfl rfl 25 rfl (fun v0 R0 t0 ht0 hp0 => ?_)
  obtain ⟨rfl, rfl⟩ := hp0
  refine q_eqs (st' := [.int (k_tc bx at0 ln sc sz i)]) rfl ?_
  refine q_eqR (Rs' := [wX, wO, wA, wB, wL, wY]) rfl ?_
  exact q_iret C B dX6_count_25 rfl rfl (fun t0 ht0 => ⟨rfl, rfl⟩)

set_option maxHeartbeats 400000 in
set_option maxRecDepth 100000 in
theorem c_X6_whyNot_b (l : Launch) {D : va_G} {tys : List (ClassId × FieldType)} {Z : (Nat → Prop) → State → Heap → Prop} (hZ : q_St Z) {cI : ClassId} (hI : tys[0]? = some (cI, .int)) (hN : q_Ns Z) (h0 : Nat) (aO : Nat) (aY : Nat) (aN : Nat) (hsn : Int32) (aT : Nat) (aK : Nat) (wX : va_W) (hX : k_isX cI h0 aO aY aN hsn aT aK wX) (aB : Nat) (aL : Nat) (aS : Nat) (sc : Nat → Int32) (wO : va_W) (hO : k_isO cI aO aB aL aS sc wO) (wA : va_W) (hA : k_isA cI aS sc wA) (bx : k_Bx) (at0 : Nat) (wB : va_W) (hB : k_isB cI aB bx at0 wB) (ln : List (Nat × Nat)) (wL : va_W) (hL : k_isL cI aL ln wL) (c : Nat) (hc : c < 12) : q_Ct l D tys Z yX6_whyNot wsX6_whyNot ({ frames := 4, cells := 0, slots := 0, locals := 132 } : Room) 0 0 [.ref h0, .int (nI c)] [wX, wO, wA, wB, wL] (fun v0 R0 _ => v0 = some (.int (nI (k_wn bx ln sc c))) ∧ R0 = [wX, wO, wA, wB, wL]) := by
  have hcI := hI
  refine q_ct (cc := cX6_whyNot) (maxL := 2) (ret := (some .int)) (own := RX6) (by decide) rfl hZ (Nat.le_of_ble_eq_true rfl) rfl ?_
  intro p9 e9 R s9 m9 args below meth c9 A Q C B
  have hts := C.2.2.2.2.1
  have hinX6 : ∀ w ∈ u_ws RX6 TX6 6, w ∈ wsX6_whyNot := by decide +kernel
  have f12 := hts (.fieldLink RX6 12 "SortCases" "state" "LSortCases$State;") (by decide +kernel)
  refine q_eqL (L' := [(0, .ref h0), (1, .int (nI c))]) rfl ?_
  refine q_iload_n C dX6_whyNot_0 1 1 rfl rfl ?_
  refine q_callS (n := 1) (rest := []) (Rr := [wX, wO, wA, wB, wL]) C (c_X6_isSort l hZ hI (nI c)) gX6_whyNot_X6_isSort rfl rfl rfl (by decide +kernel) B.1 ⟨Nat.le_of_ble_eq_true rfl, Nat.le_of_ble_eq_true rfl⟩ rfl rfl (Nat.le_of_ble_eq_true rfl) dX6_whyNot_1 ⟨(Nat.le_of_ble_eq_true rfl), (Nat.le_of_ble_eq_true rfl)⟩ [] [0, 1, 2, 3, 4] (by decide : ([] ++ ([0, 1, 2, 3, 4] : List Nat)).Perm (List.range 5)) rfl rfl 4 rfl (fun v0 R0 t0 ht0 hp0 => ?_)
  obtain ⟨rfl, rfl⟩ := hp0
  refine q_eqs (st' := [.int (q_b (decide (0 ≤ (nI c) ∧ (nI c) < 12)))]) rfl ?_
  refine q_eqR (Rs' := [wX, wO, wA, wB, wL]) rfl ?_
  refine q_if_ne (P := ¬ (0 ≤ (nI c) ∧ (nI c) < 12)) C dX6_whyNot_4 7 17 rfl (by decide) q_bd0 (fun h4 => ?_) (fun h4 => False.elim (h4 (k_ss (by omega))))
  refine q_aload_n C dX6_whyNot_17 18 0 rfl rfl ?_
  obtain rfl := hX
  have hXox1 : k_isX cI h0 aO aY aN hsn aT aK [(h0, .inr (5, [.ref aO, .ref aY, .ref aN, .int hsn, .ref aT, .ref aK]))] := rfl
  refine q_get (k := 0) (j := 0) (f := 0) C hinX6 f12 (fun _ h => h) (by decide) rfl dX6_whyNot_18 21 rfl rfl rfl rfl ?_
  refine q_iload_n C dX6_whyNot_21 22 1 rfl rfl ?_
  refine q_callV (k := 1) (ci := 3) (n := 1) (rest := []) (Rr := [[(h0, .inr (5, [.ref aO, .ref aY, .ref aN, .int hsn, .ref aT, .ref aK]))]]) C rfl (k_isO_recv hO) rfl (c_X4_whyNotSet l hZ hI hN aO aB aL aS sc wO hO wA hA bx at0 wB hB ln wL hL c (by omega)) gX6_whyNot_X4_whyNotSet rfl rfl rfl (by decide +kernel) B.1 ⟨Nat.le_of_ble_eq_true rfl, Nat.le_of_ble_eq_true rfl⟩ rfl rfl (Nat.le_of_ble_eq_true rfl) dX6_whyNot_22 ⟨(Nat.le_of_ble_eq_true rfl), (Nat.le_of_ble_eq_true rfl)⟩ [1, 2, 3, 4] [0] (by decide : ([1, 2, 3, 4] ++ ([0] : List Nat)).Perm (List.range 5)) rfl rfl 25 rfl (fun v0 R0 t0 ht0 hp0 => ?_)
  obtain ⟨rfl, rfl⟩ := hp0
  refine q_eqs (st' := [.int (nI (k_wn bx ln sc c))]) rfl ?_
  refine q_reord [4, 0, 1, 2, 3] (by decide : ([4, 0, 1, 2, 3] : List Nat).Perm (List.range 5)) (Rs' := [[(h0, .inr (5, [.ref aO, .ref aY, .ref aN, .int hsn, .ref aT, .ref aK]))], wO, wA, wB, wL]) rfl rfl ?_
  exact q_iret C B dX6_whyNot_25 rfl rfl (fun t0 ht0 => ⟨rfl, rfl⟩)

