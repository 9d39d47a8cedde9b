set_option maxHeartbeats 400000 in
set_option maxRecDepth 100000 in
theorem c_X6_numberOfBox (l : Launch) {D : va_G} {tys : List (ClassId × FieldType)} {Z : (Nat → Prop) → State → Heap → Prop} (hZ : q_St Z) {cI : ClassId} (hI : tys[0]? = some (cI, .int)) (hN : q_Ns Z) (h0 : Nat) (aO : Nat) (aY : Nat) (aN : Nat) (hsn : Int32) (aT : Nat) (aK : Nat) (wX : va_W) (hX : k_isX cI h0 aO aY aN hsn aT aK wX) (aB : Nat) (aL : Nat) (aS : Nat) (sc : Nat → Int32) (wO : va_W) (hO : k_isO cI aO aB aL aS sc wO) (wA : va_W) (hA : k_isA cI aS sc wA) (bx : k_Bx) (at0 : Nat) (wB : va_W) (hB : k_isB cI aB bx at0 wB) (b : Nat) (i : Nat) (hb : b < 12) (hi : i < 7) : q_Ct l D tys Z yX6_numberOfBox wsX6_numberOfBox ({ frames := 4, cells := 0, slots := 0, locals := 132 } : Room) 0 0 [.ref h0, .int (nI b), .int (nI i)] [wX, wO, wA, wB] (fun v0 R0 _ => v0 = some (.int (k_tb bx at0 sc b i)) ∧ R0 = [wX, wO, wA, wB]) := by
  have hcI := hI
  refine q_ct (cc := cX6_numberOfBox) (maxL := 3) (ret := (some .int)) (own := RX6) (by decide) rfl hZ (Nat.le_of_ble_eq_true rfl) rfl ?_
  intro p9 e9 R s9 m9 args below meth c9 A Q C B
  have hts := C.2.2.2.2.1
  have hinX6 : ∀ w ∈ u_ws RX6 TX6 6, w ∈ wsX6_numberOfBox := by decide +kernel
  have f12 := hts (.fieldLink RX6 12 "SortCases" "state" "LSortCases$State;") (by decide +kernel)
  have hinX4 : ∀ w ∈ u_ws RX4 TX4 11, w ∈ wsX6_numberOfBox := by decide +kernel
  have f111 := q_nsb hN C (by decide +kernel : Cond.fieldLinkNest "SortCases" 111 "SortCases$State" "boxes" "LSortCases$Boxes;" "SortCases" ∈ q_nest) rfl
  have f265 := q_nsb hN C (by decide +kernel : Cond.fieldLinkNest "SortCases" 265 "SortCases$State" "hand" "I" "SortCases" ∈ q_nest) rfl
  have hinX0 : ∀ w ∈ u_ws RX0 TX0 3, w ∈ wsX6_numberOfBox := by decide +kernel
  have f268 := q_nsb hN C (by decide +kernel : Cond.fieldLinkNest "SortCases" 268 "SortCases$Boxes" "sortedBox" "I" "SortCases" ∈ q_nest) rfl
  refine q_eqL (L' := [(0, .ref h0), (1, .int (nI b)), (2, .int (nI i))]) rfl ?_
  refine q_iload_n C dX6_numberOfBox_0 1 2 rfl rfl ?_
  rcases (by omega : i = 0 ∨ i = 1 ∨ i = 2 ∨ i = 3 ∨ i = 4 ∨ i = 5 ∨ i = 6) with rfl | rfl | rfl | rfl | rfl | rfl | rfl
  · refine q_tableIn C dX6_numberOfBox_1 40 (by decide) (by decide) rfl (by decide) ?_
    refine q_aload_n C dX6_numberOfBox_40 41 0 rfl rfl ?_
    obtain rfl := hX
    have hXox1 : k_isX cI h0 aO aY aN hsn aT aK [(h0, .inr (5, [.ref aO, .ref aY, .ref aN, .int hsn, .ref aT, .ref aK]))] := rfl
    refine q_get (k := 0) (j := 0) (f := 0) C hinX6 f12 (fun _ h => h) (by decide) rfl dX6_numberOfBox_41 44 rfl rfl rfl rfl ?_
    obtain rfl := hO
    have hOox2 : k_isO cI aO aB aL aS sc [(aO, .inr (3, [.ref aB, .ref aL, .ref aS, .int (sc 3), .int (sc 5), .int (sc 6), .int (sc 7), .int (sc 8), .int (sc 9), .int (sc 10), .int (sc 11)]))] := rfl
    refine q_getN (k := 1) (j := 0) (f := 0) C hinX4 f111 (fun _ h => h) (by decide) rfl dX6_numberOfBox_44 47 rfl rfl rfl rfl ?_
    refine q_iload_n C dX6_numberOfBox_47 48 1 rfl rfl ?_
    refine q_callV (k := 3) (ci := 0) (n := 1) (rest := []) (Rr := [[(h0, .inr (5, [.ref aO, .ref aY, .ref aN, .int hsn, .ref aT, .ref aK]))], [(aO, .inr (3, [.ref aB, .ref aL, .ref aS, .int (sc 3), .int (sc 5), .int (sc 6), .int (sc 7), .int (sc 8), .int (sc 9), .int (sc 10), .int (sc 11)]))], wA]) C rfl (k_isB_recv hB) rfl (c_X0_heightOf l hZ hI aB bx at0 wB hB b (by omega)) gX6_numberOfBox_X0_heightOf rfl rfl rfl (by decide +kernel) B.1 ⟨Nat.le_of_ble_eq_true rfl, Nat.le_of_ble_eq_true rfl⟩ rfl rfl (Nat.le_of_ble_eq_true rfl) dX6_numberOfBox_48 ⟨Nat.le_of_ble_eq_true rfl, Nat.le_of_ble_eq_true rfl⟩ [3] [0, 1, 2] (by decide : ([3] ++ ([0, 1, 2] : List Nat)).Perm (List.range 4)) rfl rfl 51 rfl (fun v0 R0 t0 ht0 hp0 => ?_)
    obtain ⟨rfl, rfl⟩ := hp0
    refine q_eqs (st' := [.int (nI ((bx b).length))]) rfl ?_
    refine q_reord [1, 2, 3, 0] (by decide : ([1, 2, 3, 0] : List Nat).Perm (List.range 4)) (Rs' := [[(h0, .inr (5, [.ref aO, .ref aY, .ref aN, .int hsn, .ref aT, .ref aK]))], [(aO, .inr (3, [.ref aB, .ref aL, .ref aS, .int (sc 3), .int (sc 5), .int (sc 6), .int (sc 7), .int (sc 8), .int (sc 9), .int (sc 10), .int (sc 11)]))], wA, wB]) rfl rfl ?_
    have hh48 : (bx b).length ≤ 20 := (hB.2.1 b (by omega)).1
    exact q_iret C B dX6_numberOfBox_51 rfl rfl (fun t0 ht0 => ⟨rfl, rfl⟩)
  · refine q_tableIn C dX6_numberOfBox_1 52 (by decide) (by decide) rfl (by decide) ?_
    refine q_aload_n C dX6_numberOfBox_52 53 0 rfl rfl ?_
    obtain rfl := hX
    have hXox3 : k_isX cI h0 aO aY aN hsn aT aK [(h0, .inr (5, [.ref aO, .ref aY, .ref aN, .int hsn, .ref aT, .ref aK]))] := rfl
    refine q_get (k := 0) (j := 0) (f := 0) C hinX6 f12 (fun _ h => h) (by decide) rfl dX6_numberOfBox_53 56 rfl rfl rfl rfl ?_
    obtain rfl := hO
    have hOox4 : k_isO cI aO aB aL aS sc [(aO, .inr (3, [.ref aB, .ref aL, .ref aS, .int (sc 3), .int (sc 5), .int (sc 6), .int (sc 7), .int (sc 8), .int (sc 9), .int (sc 10), .int (sc 11)]))] := rfl
    refine q_getN (k := 1) (j := 0) (f := 0) C hinX4 f111 (fun _ h => h) (by decide) rfl dX6_numberOfBox_56 59 rfl rfl rfl rfl ?_
    refine q_iload_n C dX6_numberOfBox_59 60 1 rfl rfl ?_
    refine q_callV (k := 3) (ci := 0) (n := 1) (rest := []) (Rr := [[(h0, .inr (5, [.ref aO, .ref aY, .ref aN, .int hsn, .ref aT, .ref aK]))], [(aO, .inr (3, [.ref aB, .ref aL, .ref aS, .int (sc 3), .int (sc 5), .int (sc 6), .int (sc 7), .int (sc 8), .int (sc 9), .int (sc 10), .int (sc 11)]))], wA]) C rfl (k_isB_recv hB) rfl (c_X0_wrongIn l hZ hI aB bx at0 wB hB b (by omega)) gX6_numberOfBox_X0_wrongIn rfl rfl rfl (by decide +kernel) B.1 ⟨Nat.le_of_ble_eq_true rfl, Nat.le_of_ble_eq_true rfl⟩ rfl rfl (Nat.le_of_ble_eq_true rfl) dX6_numberOfBox_60 ⟨Nat.le_of_ble_eq_true rfl, Nat.le_of_ble_eq_true rfl⟩ [3] [0, 1, 2] (by decide : ([3] ++ ([0, 1, 2] : List Nat)).Perm (List.range 4)) rfl rfl 63 rfl (fun v0 R0 t0 ht0 hp0 => ?_)
    obtain ⟨rfl, rfl⟩ := hp0
    refine q_eqs (st' := [.int (nI (k_wi bx b))]) rfl ?_
    refine q_reord [1, 2, 3, 0] (by decide : ([1, 2, 3, 0] : List Nat).Perm (List.range 4)) (Rs' := [[(h0, .inr (5, [.ref aO, .ref aY, .ref aN, .int hsn, .ref aT, .ref aK]))], [(aO, .inr (3, [.ref aB, .ref aL, .ref aS, .int (sc 3), .int (sc 5), .int (sc 6), .int (sc 7), .int (sc 8), .int (sc 9), .int (sc 10), .int (sc 11)]))], wA, wB]) rfl rfl ?_
    have hc60 : k_wi bx b ≤ (bx b).length := k_wi_le _ _
    exact q_iret C B dX6_numberOfBox_63 rfl rfl (fun t0 ht0 => ⟨rfl, rfl⟩)
  · refine q_tableIn C dX6_numberOfBox_1 64 (by decide) (by decide) rfl (by decide) ?_
    refine q_aload_n C dX6_numberOfBox_64 65 0 rfl rfl ?_
    obtain rfl := hX
    have hXox5 : k_isX cI h0 aO aY aN hsn aT aK [(h0, .inr (5, [.ref aO, .ref aY, .ref aN, .int hsn, .ref aT, .ref aK]))] := rfl
    refine q_get (k := 0) (j := 0) (f := 0) C hinX6 f12 (fun _ h => h) (by decide) rfl dX6_numberOfBox_65 68 rfl rfl rfl rfl ?_
    obtain rfl := hO
    have hOox6 : k_isO cI aO aB aL aS sc [(aO, .inr (3, [.ref aB, .ref aL, .ref aS, .int (sc 3), .int (sc 5), .int (sc 6), .int (sc 7), .int (sc 8), .int (sc 9), .int (sc 10), .int (sc 11)]))] := rfl
    refine q_getN (k := 1) (j := 0) (f := 0) C hinX4 f111 (fun _ h => h) (by decide) rfl dX6_numberOfBox_68 71 rfl rfl rfl rfl ?_
    refine q_iload_n C dX6_numberOfBox_71 72 1 rfl rfl ?_
    refine q_iconst (v := nI 0) C dX6_numberOfBox_72 73 rfl (by decide) ?_
    refine q_callV (k := 3) (ci := 0) (n := 2) (rest := []) (Rr := [[(h0, .inr (5, [.ref aO, .ref aY, .ref aN, .int hsn, .ref aT, .ref aK]))], [(aO, .inr (3, [.ref aB, .ref aL, .ref aS, .int (sc 3), .int (sc 5), .int (sc 6), .int (sc 7), .int (sc 8), .int (sc 9), .int (sc 10), .int (sc 11)]))], wA]) C rfl (k_isB_recv hB) rfl (c_X0_typeAt l hZ hI aB bx at0 wB hB b 0 (by omega) (by omega)) gX6_numberOfBox_X0_typeAt rfl rfl rfl (by decide +kernel) B.1 ⟨Nat.le_of_ble_eq_true rfl, Nat.le_of_ble_eq_true rfl⟩ rfl rfl (Nat.le_of_ble_eq_true rfl) dX6_numberOfBox_73 ⟨Nat.le_of_ble_eq_true rfl, Nat.le_of_ble_eq_true rfl⟩ [3] [0, 1, 2] (by decide : ([3] ++ ([0, 1, 2] : List Nat)).Perm (List.range 4)) rfl rfl 76 rfl (fun v0 R0 t0 ht0 hp0 => ?_)
    obtain ⟨rfl, rfl⟩ := hp0
    refine q_eqs (st' := [.int (k_top bx b 0)]) rfl ?_
    refine q_reord [1, 2, 3, 0] (by decide : ([1, 2, 3, 0] : List Nat).Perm (List.range 4)) (Rs' := [[(h0, .inr (5, [.ref aO, .ref aY, .ref aN, .int hsn, .ref aT, .ref aK]))], [(aO, .inr (3, [.ref aB, .ref aL, .ref aS, .int (sc 3), .int (sc 5), .int (sc 6), .int (sc 7), .int (sc 8), .int (sc 9), .int (sc 10), .int (sc 11)]))], wA, wB]) rfl rfl ?_
    exact q_iret C B dX6_numberOfBox_76 rfl rfl (fun t0 ht0 => ⟨rfl, rfl⟩)
  · refine q_tableIn C dX6_numberOfBox_1 77 (by decide) (by decide) rfl (by decide) ?_
    refine q_iload_n C dX6_numberOfBox_77 78 1 rfl rfl ?_
    refine q_callS (n := 1) (rest := []) (Rr := [wX, wO, wA, wB]) C (c_X6_widthOf l hZ hI b (by omega)) gX6_numberOfBox_X6_widthOf rfl rfl rfl (by decide +kernel) B.1 ⟨Nat.le_of_ble_eq_true rfl, Nat.le_of_ble_eq_true rfl⟩ rfl rfl (Nat.le_of_ble_eq_true rfl) dX6_numberOfBox_78 ⟨Nat.le_of_ble_eq_true rfl, Nat.le_of_ble_eq_true rfl⟩ [] [0, 1, 2, 3] (by decide : ([] ++ ([0, 1, 2, 3] : List Nat)).Perm (List.range 4)) rfl rfl 81 rfl (fun v0 R0 t0 ht0 hp0 => ?_)
    obtain ⟨rfl, rfl⟩ := hp0
    refine q_eqs (st' := [.int (nI (k_wd b))]) rfl ?_
    refine q_eqR (Rs' := [wX, wO, wA, wB]) rfl ?_
    have hw78 : k_wd b ≤ 4 := (k_wd_le _).2
    exact q_iret C B dX6_numberOfBox_81 rfl rfl (fun t0 ht0 => ⟨rfl, rfl⟩)
  · refine q_tableIn C dX6_numberOfBox_1 82 (by decide) (by decide) rfl (by decide) ?_
    refine q_aload_n C dX6_numberOfBox_82 83 0 rfl rfl ?_
    obtain rfl := hX
    have hXox7 : k_isX cI h0 aO aY aN hsn aT aK [(h0, .inr (5, [.ref aO, .ref aY, .ref aN, .int hsn, .ref aT, .ref aK]))] := rfl
    refine q_get (k := 0) (j := 0) (f := 0) C hinX6 f12 (fun _ h => h) (by decide) rfl dX6_numberOfBox_83 86 rfl rfl rfl rfl ?_
    obtain rfl := hO
    have hOox8 : k_isO cI aO aB aL aS sc [(aO, .inr (3, [.ref aB, .ref aL, .ref aS, .int (sc 3), .int (sc 5), .int (sc 6), .int (sc 7), .int (sc 8), .int (sc 9), .int (sc 10), .int (sc 11)]))] := rfl
    refine q_getN (k := 1) (j := 0) (f := 3) C hinX4 f265 (fun _ h => h) (by decide) rfl dX6_numberOfBox_86 89 rfl rfl rfl rfl ?_
    refine q_iload_n C dX6_numberOfBox_89 90 1 rfl rfl ?_
    refine q_icmp_ne C dX6_numberOfBox_90 93 97 rfl (by decide) Iff.rfl (fun h90 => ?_) (fun h90 => ?_)
    · refine q_iconst (v := nI 0) C dX6_numberOfBox_97 98 rfl (by decide) ?_
      exact q_iret C B dX6_numberOfBox_98 rfl rfl (fun t0 ht0 => ⟨by first | (rw [show k_tb bx at0 sc b 4 = q_b (decide (sc 3 = nI b)) from rfl, decide_eq_true h90]; rfl) | (rw [show k_tb bx at0 sc b 4 = q_b (decide (sc 3 = nI b)) from rfl, decide_eq_false h90]; rfl), rfl⟩)
    · refine q_iconst (v := nI 1) C dX6_numberOfBox_93 94 rfl (by decide) ?_
      refine q_goto C dX6_numberOfBox_94 98 (by decide) ?_
      exact q_iret C B dX6_numberOfBox_98 rfl rfl (fun t0 ht0 => ⟨by first | (rw [show k_tb bx at0 sc b 4 = q_b (decide (sc 3 = nI b)) from rfl, decide_eq_true h90]; rfl) | (rw [show k_tb bx at0 sc b 4 = q_b (decide (sc 3 = nI b)) from rfl, decide_eq_false h90]; rfl), rfl⟩)
  · refine q_tableIn C dX6_numberOfBox_1 99 (by decide) (by decide) rfl (by decide) ?_
    refine q_aload_n C dX6_numberOfBox_99 100 0 rfl rfl ?_
    obtain rfl := hX
    have hXox9 : k_isX cI h0 aO aY aN hsn aT aK [(h0, .inr (5, [.ref aO, .ref aY, .ref aN, .int hsn, .ref aT, .ref aK]))] := rfl
    refine q_get (k := 0) (j := 0) (f := 0) C hinX6 f12 (fun _ h => h) (by decide) rfl dX6_numberOfBox_100 103 rfl rfl rfl rfl ?_
    obtain rfl := hO
    have hOox10 : k_isO cI aO aB aL aS sc [(aO, .inr (3, [.ref aB, .ref aL, .ref aS, .int (sc 3), .int (sc 5), .int (sc 6), .int (sc 7), .int (sc 8), .int (sc 9), .int (sc 10), .int (sc 11)]))] := rfl
    refine q_getN (k := 1) (j := 0) (f := 0) C hinX4 f111 (fun _ h => h) (by decide) rfl dX6_numberOfBox_103 106 rfl rfl rfl rfl ?_
    obtain ⟨hatx11, hokx11, hsx11, hhx11, fsx11, fhx11, hrelx11, rfl⟩ := hB
    have hBx11 : k_isB cI aB bx at0 [(aB, .inr (0, [.ref hsx11, .ref hhx11, .int (nI at0)])), (hsx11, .inl (cI, 240, .inl fsx11)), (hhx11, .inl (cI, 12, .inl fhx11))] := ⟨hatx11, hokx11, hsx11, hhx11, fsx11, fhx11, hrelx11, rfl⟩
    refine q_getN (k := 3) (j := 0) (f := 2) C hinX0 f268 (fun _ h => h) (by decide) rfl dX6_numberOfBox_106 109 rfl rfl rfl rfl ?_
    refine q_iload_n C dX6_numberOfBox_109 110 1 rfl rfl ?_
    refine q_icmp_ne C dX6_numberOfBox_110 113 117 rfl (by decide) (nI_eq (by omega) (by omega)) (fun h110 => ?_) (fun h110 => ?_)
    · refine q_iconst (v := nI 0) C dX6_numberOfBox_117 118 rfl (by decide) ?_
      exact q_iret C B dX6_numberOfBox_118 rfl rfl (fun t0 ht0 => ⟨by first | (rw [show k_tb bx at0 sc b 5 = q_b (decide (at0 = b)) from rfl, decide_eq_true (by omega)]; rfl) | (rw [show k_tb bx at0 sc b 5 = q_b (decide (at0 = b)) from rfl, decide_eq_false (by omega)]; rfl), rfl⟩)
    · refine q_iconst (v := nI 1) C dX6_numberOfBox_113 114 rfl (by decide) ?_
      refine q_goto C dX6_numberOfBox_114 118 (by decide) ?_
      exact q_iret C B dX6_numberOfBox_118 rfl rfl (fun t0 ht0 => ⟨by first | (rw [show k_tb bx at0 sc b 5 = q_b (decide (at0 = b)) from rfl, decide_eq_true (by omega)]; rfl) | (rw [show k_tb bx at0 sc b 5 = q_b (decide (at0 = b)) from rfl, decide_eq_false (by omega)]; rfl), rfl⟩)
  · refine q_tableOut C dX6_numberOfBox_1 119 (by decide) (by decide) ?_
    refine q_aload_n C dX6_numberOfBox_119 120 0 rfl rfl ?_
    obtain rfl := hX
    have hXox12 : k_isX cI h0 aO aY aN hsn aT aK [(h0, .inr (5, [.ref aO, .ref aY, .ref aN, .int hsn, .ref aT, .ref aK]))] := rfl
    refine q_get (k := 0) (j := 0) (f := 0) C hinX6 f12 (fun _ h => h) (by decide) rfl dX6_numberOfBox_120 123 rfl rfl rfl rfl ?_
    obtain rfl := hO
    have hOox13 : k_isO cI aO aB aL aS sc [(aO, .inr (3, [.ref aB, .ref aL, .ref aS, .int (sc 3), .int (sc 5), .int (sc 6), .int (sc 7), .int (sc 8), .int (sc 9), .int (sc 10), .int (sc 11)]))] := rfl
    refine q_getN (k := 1) (j := 0) (f := 0) C hinX4 f111 (fun _ h => h) (by decide) rfl dX6_numberOfBox_123 126 rfl rfl rfl rfl ?_
    refine q_iload_n C dX6_numberOfBox_126 127 1 rfl rfl ?_
    refine q_callV (k := 3) (ci := 0) (n := 1) (rest := []) (Rr := [[(h0, .inr (5, [.ref aO, .ref aY, .ref aN, .int hsn, .ref aT, .ref aK]))], [(aO, .inr (3, [.ref aB, .ref aL, .ref aS, .int (sc 3), .int (sc 5), .int (sc 6), .int (sc 7), .int (sc 8), .int (sc 9), .int (sc 10), .int (sc 11)]))], wA]) C rfl (k_isB_recv hB) rfl (c_X0_strayOf l hZ hI aB bx at0 wB hB b (by omega)) gX6_numberOfBox_X0_strayOf rfl rfl rfl (by decide +kernel) B.1 ⟨Nat.le_of_ble_eq_true rfl, Nat.le_of_ble_eq_true rfl⟩ rfl rfl (Nat.le_of_ble_eq_true rfl) dX6_numberOfBox_127 ⟨Nat.le_of_ble_eq_true rfl, Nat.le_of_ble_eq_true rfl⟩ [3] [0, 1, 2] (by decide : ([3] ++ ([0, 1, 2] : List Nat)).Perm (List.range 4)) rfl rfl 130 rfl (fun v0 R0 t0 ht0 hp0 => ?_)
    obtain ⟨rfl, rfl⟩ := hp0
    refine q_eqs (st' := [.int (nI (k_st bx b))]) rfl ?_
    refine q_reord [1, 2, 3, 0] (by decide : ([1, 2, 3, 0] : List Nat).Perm (List.range 4)) (Rs' := [[(h0, .inr (5, [.ref aO, .ref aY, .ref aN, .int hsn, .ref aT, .ref aK]))], [(aO, .inr (3, [.ref aB, .ref aL, .ref aS, .int (sc 3), .int (sc 5), .int (sc 6), .int (sc 7), .int (sc 8), .int (sc 9), .int (sc 10), .int (sc 11)]))], wA, wB]) rfl rfl ?_
    exact q_iret C B dX6_numberOfBox_130 rfl rfl (fun t0 ht0 => ⟨rfl, rfl⟩)

set_option maxHeartbeats 400000 in
set_option maxRecDepth 100000 in
theorem c_X6_numberOfPlace (l : Launch) {D : va_G} {tys : List (ClassId × FieldType)} {Z : (Nat → Prop) → State → Heap → Prop} (hZ : q_St Z) {cI : ClassId} (hI : tys[0]? = some (cI, .int)) (hN : q_Ns Z) (h0 : Nat) (aO : Nat) (aY : Nat) (aN : Nat) (hsn : Int32) (aT : Nat) (aK : Nat) (wX : va_W) (hX : k_isX cI h0 aO aY aN hsn aT aK wX) (aB : Nat) (aL : Nat) (aS : Nat) (sc : Nat → Int32) (wO : va_W) (hO : k_isO cI aO aB aL aS sc wO) (wA : va_W) (hA : k_isA cI aS sc wA) (bx : k_Bx) (at0 : Nat) (wB : va_W) (hB : k_isB cI aB bx at0 wB) (ln : List (Nat × Nat)) (wL : va_W) (hL : k_isL cI aL ln wL) (k : Nat) (i : Nat) (hk : k < ln.length) (hi : i < 4) : q_Ct l D tys Z yX6_numberOfPlace wsX6_numberOfPlace ({ frames := 4, cells := 0, slots := 0, locals := 132 } : Room) 0 0 [.ref h0, .int (nI k), .int (nI i)] [wX, wO, wA, wB, wL] (fun v0 R0 _ => v0 = some (.int (k_tp bx ln sc k i)) ∧ R0 = [wX, wO, wA, wB, wL]) := by
  have hcI := hI
  refine q_ct (cc := cX6_numberOfPlace) (maxL := 3) (ret := (some .int)) (own := RX6) (by decide) rfl hZ (Nat.le_of_ble_eq_true rfl) rfl ?_
  intro p9 e9 R s9 m9 args below meth c9 A Q C B
  have hts := C.2.2.2.2.1
  have hinX6 : ∀ w ∈ u_ws RX6 TX6 6, w ∈ wsX6_numberOfPlace := by decide +kernel
  have f12 := hts (.fieldLink RX6 12 "SortCases" "state" "LSortCases$State;") (by decide +kernel)
  have hinX4 : ∀ w ∈ u_ws RX4 TX4 11, w ∈ wsX6_numberOfPlace := by decide +kernel
  have f79 := q_nsb hN C (by decide +kernel : Cond.fieldLinkNest "SortCases" 79 "SortCases$State" "line" "LSortCases$Line;" "SortCases" ∈ q_nest) rfl
  refine q_eqL (L' := [(0, .ref h0), (1, .int (nI k)), (2, .int (nI i))]) rfl ?_
  refine q_iload_n C dX6_numberOfPlace_0 1 2 rfl rfl ?_
  rcases (by omega : i = 0 ∨ i = 1 ∨ i = 2 ∨ i = 3) with rfl | rfl | rfl | rfl
  · refine q_tableIn C dX6_numberOfPlace_1 28 (by decide) (by decide) rfl (by decide) ?_
    refine q_aload_n C dX6_numberOfPlace_28 29 0 rfl rfl ?_
    obtain rfl := hX
    have hXox1 : k_isX cI h0 aO aY aN hsn aT aK [(h0, .inr (5, [.ref aO, .ref aY, .ref aN, .int hsn, .ref aT, .ref aK]))] := rfl
    refine q_get (k := 0) (j := 0) (f := 0) C hinX6 f12 (fun _ h => h) (by decide) rfl dX6_numberOfPlace_29 32 rfl rfl rfl rfl ?_
    obtain rfl := hO
    have hOox2 : k_isO cI aO aB aL aS sc [(aO, .inr (3, [.ref aB, .ref aL, .ref aS, .int (sc 3), .int (sc 5), .int (sc 6), .int (sc 7), .int (sc 8), .int (sc 9), .int (sc 10), .int (sc 11)]))] := rfl
    refine q_getN (k := 1) (j := 0) (f := 1) C hinX4 f79 (fun _ h => h) (by decide) rfl dX6_numberOfPlace_32 35 rfl rfl rfl rfl ?_
    refine q_iload_n C dX6_numberOfPlace_35 36 1 rfl rfl ?_
    refine q_callV (k := 4) (ci := 2) (n := 1) (rest := []) (Rr := [[(h0, .inr (5, [.ref aO, .ref aY, .ref aN, .int hsn, .ref aT, .ref aK]))], [(aO, .inr (3, [.ref aB, .ref aL, .ref aS, .int (sc 3), .int (sc 5), .int (sc 6), .int (sc 7), .int (sc 8), .int (sc 9), .int (sc 10), .int (sc 11)]))], wA, wB]) C rfl (k_isL_recv hL) rfl (c_X2_sortAt l hZ hI aL ln wL hL k (by omega)) gX6_numberOfPlace_X2_sortAt rfl rfl rfl (by decide +kernel) B.1 ⟨Nat.le_of_ble_eq_true rfl, Nat.le_of_ble_eq_true rfl⟩ rfl rfl (Nat.le_of_ble_eq_true rfl) dX6_numberOfPlace_36 ⟨Nat.le_of_ble_eq_true rfl, Nat.le_of_ble_eq_true rfl⟩ [4] [0, 1, 2, 3] (by decide : ([4] ++ ([0, 1, 2, 3] : List Nat)).Perm (List.range 5)) rfl rfl 39 rfl (fun v0 R0 t0 ht0 hp0 => ?_)
    obtain ⟨rfl, rfl⟩ := hp0
    refine q_eqs (st' := [.int (nI ((k_la ln k).1))]) rfl ?_
    refine q_reord [1, 2, 3, 4, 0] (by decide : ([1, 2, 3, 4, 0] : List Nat).Perm (List.range 5)) (Rs' := [[(h0, .inr (5, [.ref aO, .ref aY, .ref aN, .int hsn, .ref aT, .ref aK]))], [(aO, .inr (3, [.ref aB, .ref aL, .ref aS, .int (sc 3), .int (sc 5), .int (sc 6), .int (sc 7), .int (sc 8), .int (sc 9), .int (sc 10), .int (sc 11)]))], wA, wB, wL]) rfl rfl ?_
    have ht36 : (k_la ln k).1 < 12 := (k_la_lt hL.1 (by omega)).1
    exact q_iret C B dX6_numberOfPlace_39 rfl rfl (fun t0 ht0 => ⟨rfl, rfl⟩)
  · refine q_tableIn C dX6_numberOfPlace_1 40 (by decide) (by decide) rfl (by decide) ?_
    refine q_aload_n C dX6_numberOfPlace_40 41 0 rfl rfl ?_
    obtain rfl := hX
    have hXox3 : k_isX cI h0 aO aY aN hsn aT aK [(h0, .inr (5, [.ref aO, .ref aY, .ref aN, .int hsn, .ref aT, .ref aK]))] := rfl
    refine q_get (k := 0) (j := 0) (f := 0) C hinX6 f12 (fun _ h => h) (by decide) rfl dX6_numberOfPlace_41 44 rfl rfl rfl rfl ?_
    obtain rfl := hO
    have hOox4 : k_isO cI aO aB aL aS sc [(aO, .inr (3, [.ref aB, .ref aL, .ref aS, .int (sc 3), .int (sc 5), .int (sc 6), .int (sc 7), .int (sc 8), .int (sc 9), .int (sc 10), .int (sc 11)]))] := rfl
    refine q_getN (k := 1) (j := 0) (f := 1) C hinX4 f79 (fun _ h => h) (by decide) rfl dX6_numberOfPlace_44 47 rfl rfl rfl rfl ?_
    refine q_iload_n C dX6_numberOfPlace_47 48 1 rfl rfl ?_
    refine q_callV (k := 4) (ci := 2) (n := 1) (rest := []) (Rr := [[(h0, .inr (5, [.ref aO, .ref aY, .ref aN, .int hsn, .ref aT, .ref aK]))], [(aO, .inr (3, [.ref aB, .ref aL, .ref aS, .int (sc 3), .int (sc 5), .int (sc 6), .int (sc 7), .int (sc 8), .int (sc 9), .int (sc 10), .int (sc 11)]))], wA, wB]) C rfl (k_isL_recv hL) rfl (c_X2_letterAt l hZ hI aL ln wL hL k (by omega)) gX6_numberOfPlace_X2_letterAt rfl rfl rfl (by decide +kernel) B.1 ⟨Nat.le_of_ble_eq_true rfl, Nat.le_of_ble_eq_true rfl⟩ rfl rfl (Nat.le_of_ble_eq_true rfl) dX6_numberOfPlace_48 ⟨Nat.le_of_ble_eq_true rfl, Nat.le_of_ble_eq_true rfl⟩ [4] [0, 1, 2, 3] (by decide : ([4] ++ ([0, 1, 2, 3] : List Nat)).Perm (List.range 5)) rfl rfl 51 rfl (fun v0 R0 t0 ht0 hp0 => ?_)
    obtain ⟨rfl, rfl⟩ := hp0
    refine q_eqs (st' := [.int (nI ((k_la ln k).2))]) rfl ?_
    refine q_reord [1, 2, 3, 4, 0] (by decide : ([1, 2, 3, 4, 0] : List Nat).Perm (List.range 5)) (Rs' := [[(h0, .inr (5, [.ref aO, .ref aY, .ref aN, .int hsn, .ref aT, .ref aK]))], [(aO, .inr (3, [.ref aB, .ref aL, .ref aS, .int (sc 3), .int (sc 5), .int (sc 6), .int (sc 7), .int (sc 8), .int (sc 9), .int (sc 10), .int (sc 11)]))], wA, wB, wL]) rfl rfl ?_
    have ht48 : (k_la ln k).2 < 12 := (k_la_lt hL.1 (by omega)).2
    exact q_iret C B dX6_numberOfPlace_51 rfl rfl (fun t0 ht0 => ⟨rfl, rfl⟩)
  · refine q_tableIn C dX6_numberOfPlace_1 52 (by decide) (by decide) rfl (by decide) ?_
    refine q_aload_n C dX6_numberOfPlace_52 53 0 rfl rfl ?_
    obtain rfl := hX
    have hXox5 : k_isX cI h0 aO aY aN hsn aT aK [(h0, .inr (5, [.ref aO, .ref aY, .ref aN, .int hsn, .ref aT, .ref aK]))] := rfl
    refine q_get (k := 0) (j := 0) (f := 0) C hinX6 f12 (fun _ h => h) (by decide) rfl dX6_numberOfPlace_53 56 rfl rfl rfl rfl ?_
    obtain rfl := hO
    have hOox6 : k_isO cI aO aB aL aS sc [(aO, .inr (3, [.ref aB, .ref aL, .ref aS, .int (sc 3), .int (sc 5), .int (sc 6), .int (sc 7), .int (sc 8), .int (sc 9), .int (sc 10), .int (sc 11)]))] := rfl
    refine q_getN (k := 1) (j := 0) (f := 1) C hinX4 f79 (fun _ h => h) (by decide) rfl dX6_numberOfPlace_56 59 rfl rfl rfl rfl ?_
    refine q_iload_n C dX6_numberOfPlace_59 60 1 rfl rfl ?_
    refine q_callV (k := 4) (ci := 2) (n := 1) (rest := []) (Rr := [[(h0, .inr (5, [.ref aO, .ref aY, .ref aN, .int hsn, .ref aT, .ref aK]))], [(aO, .inr (3, [.ref aB, .ref aL, .ref aS, .int (sc 3), .int (sc 5), .int (sc 6), .int (sc 7), .int (sc 8), .int (sc 9), .int (sc 10), .int (sc 11)]))], wA, wB]) C rfl (k_isL_recv hL) rfl (c_X2_isWrongAt l hZ hI aL ln wL hL k (by omega)) gX6_numberOfPlace_X2_isWrongAt rfl rfl rfl (by decide +kernel) B.1 ⟨Nat.le_of_ble_eq_true rfl, Nat.le_of_ble_eq_true rfl⟩ rfl rfl (Nat.le_of_ble_eq_true rfl) dX6_numberOfPlace_60 ⟨Nat.le_of_ble_eq_true rfl, Nat.le_of_ble_eq_true rfl⟩ [4] [0, 1, 2, 3] (by decide : ([4] ++ ([0, 1, 2, 3] : List Nat)).Perm (List.range 5)) rfl rfl 63 rfl (fun v0 R0 t0 ht0 hp0 => ?_)
    obtain ⟨rfl, rfl⟩ := hp0
    refine q_eqs (st' := [.int (q_b (decide (¬ (k_la ln k).1 = (k_la ln k).2)))]) rfl ?_
    refine q_reord [1, 2, 3, 4, 0] (by decide : ([1, 2, 3, 4, 0] : List Nat).Perm (List.range 5)) (Rs' := [[(h0, .inr (5, [.ref aO, .ref aY, .ref aN, .int hsn, .ref aT, .ref aK]))], [(aO, .inr (3, [.ref aB, .ref aL, .ref aS, .int (sc 3), .int (sc 5), .int (sc 6), .int (sc 7), .int (sc 8), .int (sc 9), .int (sc 10), .int (sc 11)]))], wA, wB, wL]) rfl rfl ?_
    refine q_if_eq (P := ¬ (¬ (k_la ln k).1 = (k_la ln k).2)) C dX6_numberOfPlace_63 66 70 rfl (by decide) q_bd0 (fun h63 => ?_) (fun h63 => ?_)
    · refine q_iconst (v := nI 0) C dX6_numberOfPlace_70 71 rfl (by decide) ?_
      exact q_iret C B dX6_numberOfPlace_71 rfl rfl (fun t0 ht0 => ⟨by first | (rw [show k_tp bx ln sc k 2 = q_b (decide (¬ (k_la ln k).1 = (k_la ln k).2)) from rfl, decide_eq_true (by simpa using h63)]; rfl) | (rw [show k_tp bx ln sc k 2 = q_b (decide (¬ (k_la ln k).1 = (k_la ln k).2)) from rfl, decide_eq_false (by simpa using h63)]; rfl), rfl⟩)
    · refine q_iconst (v := nI 1) C dX6_numberOfPlace_66 67 rfl (by decide) ?_
      refine q_goto C dX6_numberOfPlace_67 71 (by decide) ?_
      exact q_iret C B dX6_numberOfPlace_71 rfl rfl (fun t0 ht0 => ⟨by first | (rw [show k_tp bx ln sc k 2 = q_b (decide (¬ (k_la ln k).1 = (k_la ln k).2)) from rfl, decide_eq_true (by simpa using h63)]; rfl) | (rw [show k_tp bx ln sc k 2 = q_b (decide (¬ (k_la ln k).1 = (k_la ln k).2)) from rfl, decide_eq_false (by simpa using h63)]; rfl), rfl⟩)
  · refine q_tableOut C dX6_numberOfPlace_1 72 (by decide) (by decide) ?_
    refine q_aload_n C dX6_numberOfPlace_72 73 0 rfl rfl ?_
    obtain rfl := hX
    have hXox7 : k_isX cI h0 aO aY aN hsn aT aK [(h0, .inr (5, [.ref aO, .ref aY, .ref aN, .int hsn, .ref aT, .ref aK]))] := rfl
    refine q_get (k := 0) (j := 0) (f := 0) C hinX6 f12 (fun _ h => h) (by decide) rfl dX6_numberOfPlace_73 76 rfl rfl rfl rfl ?_
    refine q_iload_n C dX6_numberOfPlace_76 77 1 rfl rfl ?_
    refine q_callV (k := 1) (ci := 3) (n := 1) (rest := []) (Rr := [[(h0, .inr (5, [.ref aO, .ref aY, .ref aN, .int hsn, .ref aT, .ref aK]))]]) C rfl (k_isO_recv hO) rfl (c_X4_whyNotCorrect l hZ hI aO aB aL aS sc wO hO wA hA bx at0 wB hB ln wL hL k (by omega)) gX6_numberOfPlace_X4_whyNotCorrect rfl rfl rfl (by decide +kernel) B.1 ⟨Nat.le_of_ble_eq_true rfl, Nat.le_of_ble_eq_true rfl⟩ rfl rfl (Nat.le_of_ble_eq_true rfl) dX6_numberOfPlace_77 ⟨Nat.le_of_ble_eq_true rfl, Nat.le_of_ble_eq_true rfl⟩ [1, 2, 3, 4] [0] (by decide : ([1, 2, 3, 4] ++ ([0] : List Nat)).Perm (List.range 5)) rfl rfl 80 rfl (fun v0 R0 t0 ht0 hp0 => ?_)
    obtain ⟨rfl, rfl⟩ := hp0
    refine q_eqs (st' := [.int (nI (k_wc bx ln sc k))]) rfl ?_
    refine q_reord [4, 0, 1, 2, 3] (by decide : ([4, 0, 1, 2, 3] : List Nat).Perm (List.range 5)) (Rs' := [[(h0, .inr (5, [.ref aO, .ref aY, .ref aN, .int hsn, .ref aT, .ref aK]))], wO, wA, wB, wL]) rfl rfl ?_
    exact q_iret C B dX6_numberOfPlace_80 rfl rfl (fun t0 ht0 => ⟨rfl, rfl⟩)

set_option maxHeartbeats 400000 in
set_option maxRecDepth 100000 in
theorem c_X6_numberOfAll (l : Launch) {D : va_G} {tys : List (ClassId × FieldType)} {Z : (Nat → Prop) → State → Heap → Prop} (hZ : q_St Z) {cI : ClassId} (hI : tys[0]? = some (cI, .int)) (hN : q_Ns Z) (h0 : Nat) (aO : Nat) (aY : Nat) (aN : Nat) (hsn : Int32) (aT : Nat) (aK : Nat) (wX : va_W) (hX : k_isX cI h0 aO aY aN hsn aT aK wX) (aB : Nat) (aL : Nat) (aS : Nat) (sc : Nat → Int32) (wO : va_W) (hO : k_isO cI aO aB aL aS sc wO) (wA : va_W) (hA : k_isA cI aS sc wA) (bx : k_Bx) (at0 : Nat) (wB : va_W) (hB : k_isB cI aB bx at0 wB) (ln : List (Nat × Nat)) (wL : va_W) (hL : k_isL cI aL ln wL) (aG : Nat) (nx : Nat) (sz : Nat) (wY : va_W) (hY : k_isY cI aY aG nx sz wY) (i : Nat) (hi : i < 18) (hcs : ∀ x, x < 12 → k_cn bx x x + k_cl ln x ≤ 6) (hws : k_ws bx ln = k_wr bx) : q_Ct l D tys Z yX6_numberOfAll wsX6_numberOfAll ({ frames := 5, cells := 0, slots := 0, locals := 162 } : Room) 0 0 [.ref h0, .int (nI i)] [wX, wO, wA, wB, wL, wY] (fun v0 R0 _ => v0 = some (.int (k_tc bx at0 ln sc sz i)) ∧ R0 = [wX, wO, wA, wB, wL, wY]) := by
  have hcI := hI
  refine q_ct (cc := cX6_numberOfAll) (maxL := 2) (ret := (some .int)) (own := RX6) (by decide) rfl hZ (Nat.le_of_ble_eq_true rfl) rfl ?_
  intro p9 e9 R s9 m9 args below meth c9 A Q C B
  have hts := C.2.2.2.2.1
  have hinX6 : ∀ w ∈ u_ws RX6 TX6 6, w ∈ wsX6_numberOfAll := by decide +kernel
  have f12 := hts (.fieldLink RX6 12 "SortCases" "state" "LSortCases$State;") (by decide +kernel)
  have hinX4 : ∀ w ∈ u_ws RX4 TX4 11, w ∈ wsX6_numberOfAll := by decide +kernel
  have f79 := q_nsb hN C (by decide +kernel : Cond.fieldLinkNest "SortCases" 79 "SortCases$State" "line" "LSortCases$Line;" "SortCases" ∈ q_nest) rfl
  have hinX2 : ∀ w ∈ u_ws RX2 TX2 3, w ∈ wsX6_numberOfAll := by decide +kernel
  have f191 := q_nsb hN C (by decide +kernel : Cond.fieldLinkNest "SortCases" 191 "SortCases$Line" "length" "I" "SortCases" ∈ q_nest) rfl
  have f111 := q_nsb hN C (by decide +kernel : Cond.fieldLinkNest "SortCases" 111 "SortCases$State" "boxes" "LSortCases$Boxes;" "SortCases" ∈ q_nest) rfl
  have f265 := q_nsb hN C (by decide +kernel : Cond.fieldLinkNest "SortCases" 265 "SortCases$State" "hand" "I" "SortCases" ∈ q_nest) rfl
  have hinX0 : ∀ w ∈ u_ws RX0 TX0 3, w ∈ wsX6_numberOfAll := by decide +kernel
  have f268 := q_nsb hN C (by decide +kernel : Cond.fieldLinkNest "SortCases" 268 "SortCases$Boxes" "sortedBox" "I" "SortCases" ∈ q_nest) rfl
  have f292 := q_nsb hN C (by decide +kernel : Cond.fieldLinkNest "SortCases" 292 "SortCases$State" "lettersSet" "I" "SortCases" ∈ q_nest) rfl
  have f295 := q_nsb hN C (by decide +kernel : Cond.fieldLinkNest "SortCases" 295 "SortCases$State" "typesMoved" "I" "SortCases" ∈ q_nest) rfl
  have f298 := q_nsb hN C (by decide +kernel : Cond.fieldLinkNest "SortCases" 298 "SortCases$State" "beatsPassed" "I" "SortCases" ∈ q_nest) rfl
  have f301 := q_nsb hN C (by decide +kernel : Cond.fieldLinkNest "SortCases" 301 "SortCases$State" "corrections" "I" "SortCases" ∈ q_nest) rfl
  have f304 := q_nsb hN C (by decide +kernel : Cond.fieldLinkNest "SortCases" 304 "SortCases$State" "linesReturned" "I" "SortCases" ∈ q_nest) rfl
  have f19 := hts (.fieldLink RX6 19 "SortCases" "history" "LSortCases$History;") (by decide +kernel)
  have hinX1 : ∀ w ∈ u_ws RX1 TX1 3, w ∈ wsX6_numberOfAll := by decide +kernel
  have f180 := q_nsb hN C (by decide +kernel : Cond.fieldLinkNest "SortCases" 180 "SortCases$History" "size" "I" "SortCases" ∈ q_nest) rfl
  refine q_eqL (L' := [(0, .ref h0), (1, .int (nI i))]) rfl ?_
  have hok := hB.2.1
  have hty := k_ty_le hok
  have hwt := k_wr_ty bx
  refine q_iload_n C dX6_numberOfAll_0 1 1 rfl rfl ?_
  rcases (by omega : i = 0 ∨ i = 1 ∨ i = 2 ∨ i = 3 ∨ i = 4 ∨ i = 5 ∨ i = 6 ∨ i = 7 ∨ i = 8 ∨ i = 9 ∨ i = 10 ∨ i = 11 ∨ i = 12 ∨ i = 13 ∨ i = 14 ∨ i = 15 ∨ i = 16 ∨ i = 17) with rfl | rfl | rfl | rfl | rfl | rfl | rfl | rfl | rfl | rfl | rfl | rfl | rfl | rfl | rfl | rfl | rfl | rfl
  · refine q_tableIn C dX6_numberOfAll_1 84 (by decide) (by decide) rfl (by decide) ?_
    refine q_aload_n C dX6_numberOfAll_84 85 0 rfl rfl ?_
    obtain rfl := hX
    have hXox1 : k_isX cI h0 aO aY aN hsn aT aK [(h0, .inr (5, [.ref aO, .ref aY, .ref aN, .int hsn, .ref aT, .ref aK]))] := rfl
    refine q_get (k := 0) (j := 0) (f := 0) C hinX6 f12 (fun _ h => h) (by decide) rfl dX6_numberOfAll_85 88 rfl rfl rfl rfl ?_
    obtain rfl := hO
    have hOox2 : k_isO cI aO aB aL aS sc [(aO, .inr (3, [.ref aB, .ref aL, .ref aS, .int (sc 3), .int (sc 5), .int (sc 6), .int (sc 7), .int (sc 8), .int (sc 9), .int (sc 10), .int (sc 11)]))] := rfl
    refine q_getN (k := 1) (j := 0) (f := 1) C hinX4 f79 (fun _ h => h) (by decide) rfl dX6_numberOfAll_88 91 rfl rfl rfl rfl ?_
    obtain ⟨hlokx3, hsx3, hlx3, f1x3, f2x3, hrelx3, rfl⟩ := hL
    have hlenx3 := hlokx3.1
    have hLx3 : k_isL cI aL ln [(aL, .inr (2, [.ref hsx3, .ref hlx3, .int (nI ln.length)])), (hsx3, .inl (cI, 72, .inl f1x3)), (hlx3, .inl (cI, 72, .inl f2x3))] := ⟨hlokx3, hsx3, hlx3, f1x3, f2x3, hrelx3, rfl⟩
    refine q_getN (k := 4) (j := 0) (f := 2) C hinX2 f191 (fun _ h => h) (by decide) rfl dX6_numberOfAll_91 94 rfl rfl rfl rfl ?_
    exact q_iret C B dX6_numberOfAll_94 rfl rfl (fun t0 ht0 => ⟨rfl, rfl⟩)
  · refine q_tableIn C dX6_numberOfAll_1 95 (by decide) (by decide) rfl (by decide) ?_
    refine q_aload_n C dX6_numberOfAll_95 96 0 rfl rfl ?_
    obtain rfl := hX
    have hXox4 : k_isX cI h0 aO aY aN hsn aT aK [(h0, .inr (5, [.ref aO, .ref aY, .ref aN, .int hsn, .ref aT, .ref aK]))] := rfl
    refine q_get (k := 0) (j := 0) (f := 0) C hinX6 f12 (fun _ h => h) (by decide) rfl dX6_numberOfAll_96 99 rfl rfl rfl rfl ?_
    obtain rfl := hO
    have hOox5 : k_isO cI aO aB aL aS sc [(aO, .inr (3, [.ref aB, .ref aL, .ref aS, .int (sc 3), .int (sc 5), .int (sc 6), .int (sc 7), .int (sc 8), .int (sc 9), .int (sc 10), .int (sc 11)]))] := rfl
    refine q_getN (k := 1) (j := 0) (f := 1) C hinX4 f79 (fun _ h => h) (by decide) rfl dX6_numberOfAll_99 102 rfl rfl rfl rfl ?_
    refine q_callV (k := 4) (ci := 2) (n := 0) (rest := []) (Rr := [[(h0, .inr (5, [.ref aO, .ref aY, .ref aN, .int hsn, .ref aT, .ref aK]))], [(aO, .inr (3, [.ref aB, .ref aL, .ref aS, .int (sc 3), .int (sc 5), .int (sc 6), .int (sc 7), .int (sc 8), .int (sc 9), .int (sc 10), .int (sc 11)]))], wA, wB, wY]) C rfl (k_isL_recv hL) rfl (c_X2_width l hZ hI hN aL ln wL hL) gX6_numberOfAll_X2_width rfl rfl rfl (by decide +kernel) B.1 ⟨Nat.le_of_ble_eq_true rfl, Nat.le_of_ble_eq_true rfl⟩ rfl rfl (Nat.le_of_ble_eq_true rfl) dX6_numberOfAll_102 ⟨Nat.le_of_ble_eq_true rfl, Nat.le_of_ble_eq_true rfl⟩ [4] [0, 1, 2, 3, 5] (by decide : ([4] ++ ([0, 1, 2, 3, 5] : List Nat)).Perm (List.range 6)) rfl rfl 105 rfl (fun v0 R0 t0 ht0 hp0 => ?_)
    obtain ⟨rfl, rfl⟩ := hp0
    refine q_eqs (st' := [.int (nI (k_np ln - 1))]) rfl ?_
    refine q_reord [1, 2, 3, 4, 0, 5] (by decide : ([1, 2, 3, 4, 0, 5] : List Nat).Perm (List.range 6)) (Rs' := [[(h0, .inr (5, [.ref aO, .ref aY, .ref aN, .int hsn, .ref aT, .ref aK]))], [(aO, .inr (3, [.ref aB, .ref aL, .ref aS, .int (sc 3), .int (sc 5), .int (sc 6), .int (sc 7), .int (sc 8), .int (sc 9), .int (sc 10), .int (sc 11)]))], wA, wB, wL, wY]) rfl rfl ?_
    exact q_iret C B dX6_numberOfAll_105 rfl rfl (fun t0 ht0 => ⟨rfl, rfl⟩)
  · refine q_tableIn C dX6_numberOfAll_1 106 (by decide) (by decide) rfl (by decide) ?_
    refine q_aload_n C dX6_numberOfAll_106 107 0 rfl rfl ?_
    obtain rfl := hX
    have hXox6 : k_isX cI h0 aO aY aN hsn aT aK [(h0, .inr (5, [.ref aO, .ref aY, .ref aN, .int hsn, .ref aT, .ref aK]))] := rfl
    refine q_get (k := 0) (j := 0) (f := 0) C hinX6 f12 (fun _ h => h) (by decide) rfl dX6_numberOfAll_107 110 rfl rfl rfl rfl ?_
    obtain rfl := hO
    have hOox7 : k_isO cI aO aB aL aS sc [(aO, .inr (3, [.ref aB, .ref aL, .ref aS, .int (sc 3), .int (sc 5), .int (sc 6), .int (sc 7), .int (sc 8), .int (sc 9), .int (sc 10), .int (sc 11)]))] := rfl
    refine q_getN (k := 1) (j := 0) (f := 1) C hinX4 f79 (fun _ h => h) (by decide) rfl dX6_numberOfAll_110 113 rfl rfl rfl rfl ?_
    refine q_callV (k := 4) (ci := 2) (n := 0) (rest := []) (Rr := [[(h0, .inr (5, [.ref aO, .ref aY, .ref aN, .int hsn, .ref aT, .ref aK]))], [(aO, .inr (3, [.ref aB, .ref aL, .ref aS, .int (sc 3), .int (sc 5), .int (sc 6), .int (sc 7), .int (sc 8), .int (sc 9), .int (sc 10), .int (sc 11)]))], wA, wB, wY]) C rfl (k_isL_recv hL) rfl (c_X2_errors l hZ hI aL ln wL hL) gX6_numberOfAll_X2_errors rfl rfl rfl (by decide +kernel) B.1 ⟨Nat.le_of_ble_eq_true rfl, Nat.le_of_ble_eq_true rfl⟩ rfl rfl (Nat.le_of_ble_eq_true rfl) dX6_numberOfAll_113 ⟨Nat.le_of_ble_eq_true rfl, Nat.le_of_ble_eq_true rfl⟩ [4] [0, 1, 2, 3, 5] (by decide : ([4] ++ ([0, 1, 2, 3, 5] : List Nat)).Perm (List.range 6)) rfl rfl 116 rfl (fun v0 R0 t0 ht0 hp0 => ?_)
    obtain ⟨rfl, rfl⟩ := hp0
    refine q_eqs (st' := [.int (nI (k_er ln))]) rfl ?_
    refine q_reord [1, 2, 3, 4, 0, 5] (by decide : ([1, 2, 3, 4, 0, 5] : List Nat).Perm (List.range 6)) (Rs' := [[(h0, .inr (5, [.ref aO, .ref aY, .ref aN, .int hsn, .ref aT, .ref aK]))], [(aO, .inr (3, [.ref aB, .ref aL, .ref aS, .int (sc 3), .int (sc 5), .int (sc 6), .int (sc 7), .int (sc 8), .int (sc 9), .int (sc 10), .int (sc 11)]))], wA, wB, wL, wY]) rfl rfl ?_
    have hc113 : k_er ln ≤ (ln).length := k_er_le _
    exact q_iret C B dX6_numberOfAll_116 rfl rfl (fun t0 ht0 => ⟨rfl, rfl⟩)
  · refine q_tableIn C dX6_numberOfAll_1 117 (by decide) (by decide) rfl (by decide) ?_
    refine q_aload_n C dX6_numberOfAll_117 118 0 rfl rfl ?_
    obtain rfl := hX
    have hXox8 : k_isX cI h0 aO aY aN hsn aT aK [(h0, .inr (5, [.ref aO, .ref aY, .ref aN, .int hsn, .ref aT, .ref aK]))] := rfl
    refine q_get (k := 0) (j := 0) (f := 0) C hinX6 f12 (fun _ h => h) (by decide) rfl dX6_numberOfAll_118 121 rfl rfl rfl rfl ?_
    obtain rfl := hO
    have hOox9 : k_isO cI aO aB aL aS sc [(aO, .inr (3, [.ref aB, .ref aL, .ref aS, .int (sc 3), .int (sc 5), .int (sc 6), .int (sc 7), .int (sc 8), .int (sc 9), .int (sc 10), .int (sc 11)]))] := rfl
    refine q_getN (k := 1) (j := 0) (f := 0) C hinX4 f111 (fun _ h => h) (by decide) rfl dX6_numberOfAll_121 124 rfl rfl rfl rfl ?_
    refine q_callV (k := 3) (ci := 0) (n := 0) (rest := []) (Rr := [[(h0, .inr (5, [.ref aO, .ref aY, .ref aN, .int hsn, .ref aT, .ref aK]))], [(aO, .inr (3, [.ref aB, .ref aL, .ref aS, .int (sc 3), .int (sc 5), .int (sc 6), .int (sc 7), .int (sc 8), .int (sc 9), .int (sc 10), .int (sc 11)]))], wA, wL, wY]) C rfl (k_isB_recv hB) rfl (c_X0_types l hZ hI aB bx at0 wB hB) gX6_numberOfAll_X0_types rfl rfl rfl (by decide +kernel) B.1 ⟨Nat.le_of_ble_eq_true rfl, Nat.le_of_ble_eq_true rfl⟩ rfl rfl (Nat.le_of_ble_eq_true rfl) dX6_numberOfAll_124 ⟨Nat.le_of_ble_eq_true rfl, Nat.le_of_ble_eq_true rfl⟩ [3] [0, 1, 2, 4, 5] (by decide : ([3] ++ ([0, 1, 2, 4, 5] : List Nat)).Perm (List.range 6)) rfl rfl 127 rfl (fun v0 R0 t0 ht0 hp0 => ?_)
    obtain ⟨rfl, rfl⟩ := hp0
    refine q_eqs (st' := [.int (nI (k_ty bx))]) rfl ?_
    refine q_reord [1, 2, 3, 0, 4, 5] (by decide : ([1, 2, 3, 0, 4, 5] : List Nat).Perm (List.range 6)) (Rs' := [[(h0, .inr (5, [.ref aO, .ref aY, .ref aN, .int hsn, .ref aT, .ref aK]))], [(aO, .inr (3, [.ref aB, .ref aL, .ref aS, .int (sc 3), .int (sc 5), .int (sc 6), .int (sc 7), .int (sc 8), .int (sc 9), .int (sc 10), .int (sc 11)]))], wA, wB, wL, wY]) rfl rfl ?_
    exact q_iret C B dX6_numberOfAll_127 rfl rfl (fun t0 ht0 => ⟨rfl, rfl⟩)
  · refine q_tableIn C dX6_numberOfAll_1 128 (by decide) (by decide) rfl (by decide) ?_
    refine q_aload_n C dX6_numberOfAll_128 129 0 rfl rfl ?_
    obtain rfl := hX
    have hXox10 : k_isX cI h0 aO aY aN hsn aT aK [(h0, .inr (5, [.ref aO, .ref aY, .ref aN, .int hsn, .ref aT, .ref aK]))] := rfl
    refine q_get (k := 0) (j := 0) (f := 0) C hinX6 f12 (fun _ h => h) (by decide) rfl dX6_numberOfAll_129 132 rfl rfl rfl rfl ?_
    obtain rfl := hO
    have hOox11 : k_isO cI aO aB aL aS sc [(aO, .inr (3, [.ref aB, .ref aL, .ref aS, .int (sc 3), .int (sc 5), .int (sc 6), .int (sc 7), .int (sc 8), .int (sc 9), .int (sc 10), .int (sc 11)]))] := rfl
    refine q_getN (k := 1) (j := 0) (f := 0) C hinX4 f111 (fun _ h => h) (by decide) rfl dX6_numberOfAll_132 135 rfl rfl rfl rfl ?_
    refine q_callV (k := 3) (ci := 0) (n := 0) (rest := []) (Rr := [[(h0, .inr (5, [.ref aO, .ref aY, .ref aN, .int hsn, .ref aT, .ref aK]))], [(aO, .inr (3, [.ref aB, .ref aL, .ref aS, .int (sc 3), .int (sc 5), .int (sc 6), .int (sc 7), .int (sc 8), .int (sc 9), .int (sc 10), .int (sc 11)]))], wA, wL, wY]) C rfl (k_isB_recv hB) rfl (c_X0_wrong l hZ hI aB bx at0 wB hB) gX6_numberOfAll_X0_wrong rfl rfl rfl (by decide +kernel) B.1 ⟨Nat.le_of_ble_eq_true rfl, Nat.le_of_ble_eq_true rfl⟩ rfl rfl (Nat.le_of_ble_eq_true rfl) dX6_numberOfAll_135 ⟨Nat.le_of_ble_eq_true rfl, Nat.le_of_ble_eq_true rfl⟩ [3] [0, 1, 2, 4, 5] (by decide : ([3] ++ ([0, 1, 2, 4, 5] : List Nat)).Perm (List.range 6)) rfl rfl 138 rfl (fun v0 R0 t0 ht0 hp0 => ?_)
    obtain ⟨rfl, rfl⟩ := hp0
    refine q_eqs (st' := [.int (nI (k_wr bx))]) rfl ?_
    refine q_reord [1, 2, 3, 0, 4, 5] (by decide : ([1, 2, 3, 0, 4, 5] : List Nat).Perm (List.range 6)) (Rs' := [[(h0, .inr (5, [.ref aO, .ref aY, .ref aN, .int hsn, .ref aT, .ref aK]))], [(aO, .inr (3, [.ref aB, .ref aL, .ref aS, .int (sc 3), .int (sc 5), .int (sc 6), .int (sc 7), .int (sc 8), .int (sc 9), .int (sc 10), .int (sc 11)]))], wA, wB, wL, wY]) rfl rfl ?_
    exact q_iret C B dX6_numberOfAll_138 rfl rfl (fun t0 ht0 => ⟨rfl, rfl⟩)
  · refine q_tableIn C dX6_numberOfAll_1 139 (by decide) (by decide) rfl (by decide) ?_
    refine q_aload_n C dX6_numberOfAll_139 140 0 rfl rfl ?_
    obtain rfl := hX
    have hXox12 : k_isX cI h0 aO aY aN hsn aT aK [(h0, .inr (5, [.ref aO, .ref aY, .ref aN, .int hsn, .ref aT, .ref aK]))] := rfl
    refine q_get (k := 0) (j := 0) (f := 0) C hinX6 f12 (fun _ h => h) (by decide) rfl dX6_numberOfAll_140 143 rfl rfl rfl rfl ?_
    refine q_callV (k := 1) (ci := 3) (n := 0) (rest := []) (Rr := [[(h0, .inr (5, [.ref aO, .ref aY, .ref aN, .int hsn, .ref aT, .ref aK]))], wY]) C rfl (k_isO_recv hO) rfl (c_X4_wrongBySorts l hZ hI aO aB aL aS sc wO hO wA hA bx at0 wB hB ln wL hL (by omega)) gX6_numberOfAll_X4_wrongBySorts rfl rfl rfl (by decide +kernel) B.1 ⟨Nat.le_of_ble_eq_true rfl, Nat.le_of_ble_eq_true rfl⟩ rfl rfl (Nat.le_of_ble_eq_true rfl) dX6_numberOfAll_143 ⟨Nat.le_of_ble_eq_true rfl, Nat.le_of_ble_eq_true rfl⟩ [1, 2, 3, 4] [0, 5] (by decide : ([1, 2, 3, 4] ++ ([0, 5] : List Nat)).Perm (List.range 6)) rfl rfl 146 rfl (fun v0 R0 t0 ht0 hp0 => ?_)
    obtain ⟨rfl, rfl⟩ := hp0
    refine q_eqs (st' := [.int (nI (k_ws bx ln))]) rfl ?_
    refine q_reord [4, 0, 1, 2, 3, 5] (by decide : ([4, 0, 1, 2, 3, 5] : List Nat).Perm (List.range 6)) (Rs' := [[(h0, .inr (5, [.ref aO, .ref aY, .ref aN, .int hsn, .ref aT, .ref aK]))], wO, wA, wB, wL, wY]) rfl rfl ?_
    exact q_iret C B dX6_numberOfAll_146 rfl rfl (fun t0 ht0 => ⟨by rw [hws]; rfl, rfl⟩)
  · refine q_tableIn C dX6_numberOfAll_1 147 (by decide) (by decide) rfl (by decide) ?_
    refine q_aload_n C dX6_numberOfAll_147 148 0 rfl rfl ?_
    obtain rfl := hX
    have hXox13 : k_isX cI h0 aO aY aN hsn aT aK [(h0, .inr (5, [.ref aO, .ref aY, .ref aN, .int hsn, .ref aT, .ref aK]))] := rfl
    refine q_get (k := 0) (j := 0) (f := 0) C hinX6 f12 (fun _ h => h) (by decide) rfl dX6_numberOfAll_148 151 rfl rfl rfl rfl ?_
    obtain rfl := hO
    have hOox14 : k_isO cI aO aB aL aS sc [(aO, .inr (3, [.ref aB, .ref aL, .ref aS, .int (sc 3), .int (sc 5), .int (sc 6), .int (sc 7), .int (sc 8), .int (sc 9), .int (sc 10), .int (sc 11)]))] := rfl
    refine q_getN (k := 1) (j := 0) (f := 0) C hinX4 f111 (fun _ h => h) (by decide) rfl dX6_numberOfAll_151 154 rfl rfl rfl rfl ?_
    refine q_callV (k := 3) (ci := 0) (n := 0) (rest := []) (Rr := [[(h0, .inr (5, [.ref aO, .ref aY, .ref aN, .int hsn, .ref aT, .ref aK]))], [(aO, .inr (3, [.ref aB, .ref aL, .ref aS, .int (sc 3), .int (sc 5), .int (sc 6), .int (sc 7), .int (sc 8), .int (sc 9), .int (sc 10), .int (sc 11)]))], wA, wL, wY]) C rfl (k_isB_recv hB) rfl (c_X0_wrong l hZ hI aB bx at0 wB hB) gX6_numberOfAll_X0_wrong rfl rfl rfl (by decide +kernel) B.1 ⟨Nat.le_of_ble_eq_true rfl, Nat.le_of_ble_eq_true rfl⟩ rfl rfl (Nat.le_of_ble_eq_true rfl) dX6_numberOfAll_154 ⟨Nat.le_of_ble_eq_true rfl, Nat.le_of_ble_eq_true rfl⟩ [3] [0, 1, 2, 4, 5] (by decide : ([3] ++ ([0, 1, 2, 4, 5] : List Nat)).Perm (List.range 6)) rfl rfl 157 rfl (fun v0 R0 t0 ht0 hp0 => ?_)
    obtain ⟨rfl, rfl⟩ := hp0
    refine q_eqs (st' := [.int (nI (k_wr bx))]) rfl ?_
    refine q_reord [1, 2, 3, 0, 4, 5] (by decide : ([1, 2, 3, 0, 4, 5] : List Nat).Perm (List.range 6)) (Rs' := [[(h0, .inr (5, [.ref aO, .ref aY, .ref aN, .int hsn, .ref aT, .ref aK]))], [(aO, .inr (3, [.ref aB, .ref aL, .ref aS, .int (sc 3), .int (sc 5), .int (sc 6), .int (sc 7), .int (sc 8), .int (sc 9), .int (sc 10), .int (sc 11)]))], wA, wB, wL, wY]) rfl rfl ?_
    refine q_if_ne C dX6_numberOfAll_157 160 164 rfl (by decide) (q_eq0 (by omega)) (fun h157 => ?_) (fun h157 => ?_)
    · refine q_iconst (v := nI 0) C dX6_numberOfAll_164 165 rfl (by decide) ?_
      exact q_iret C B dX6_numberOfAll_165 rfl rfl (fun t0 ht0 => ⟨by first | (rw [show k_tc bx at0 ln sc sz 6 = q_b (decide (k_wr bx = 0)) from rfl, decide_eq_true (by omega)]; rfl) | (rw [show k_tc bx at0 ln sc sz 6 = q_b (decide (k_wr bx = 0)) from rfl, decide_eq_false (by omega)]; rfl), rfl⟩)
    · refine q_iconst (v := nI 1) C dX6_numberOfAll_160 161 rfl (by decide) ?_
      refine q_goto C dX6_numberOfAll_161 165 (by decide) ?_
      exact q_iret C B dX6_numberOfAll_165 rfl rfl (fun t0 ht0 => ⟨by first | (rw [show k_tc bx at0 ln sc sz 6 = q_b (decide (k_wr bx = 0)) from rfl, decide_eq_true (by omega)]; rfl) | (rw [show k_tc bx at0 ln sc sz 6 = q_b (decide (k_wr bx = 0)) from rfl, decide_eq_false (by omega)]; rfl), rfl⟩)
  · refine q_tableIn C dX6_numberOfAll_1 166 (by decide) (by decide) rfl (by decide) ?_
    refine q_aload_n C dX6_numberOfAll_166 167 0 rfl rfl ?_
    obtain rfl := hX
    have hXox15 : k_isX cI h0 aO aY aN hsn aT aK [(h0, .inr (5, [.ref aO, .ref aY, .ref aN, .int hsn, .ref aT, .ref aK]))] := rfl
    refine q_get (k := 0) (j := 0) (f := 0) C hinX6 f12 (fun _ h => h) (by decide) rfl dX6_numberOfAll_167 170 rfl rfl rfl rfl ?_
    obtain rfl := hO
    have hOox16 : k_isO cI aO aB aL aS sc [(aO, .inr (3, [.ref aB, .ref aL, .ref aS, .int (sc 3), .int (sc 5), .int (sc 6), .int (sc 7), .int (sc 8), .int (sc 9), .int (sc 10), .int (sc 11)]))] := rfl
    refine q_getN (k := 1) (j := 0) (f := 3) C hinX4 f265 (fun _ h => h) (by decide) rfl dX6_numberOfAll_170 173 rfl rfl rfl rfl ?_
    exact q_iret C B dX6_numberOfAll_173 rfl rfl (fun t0 ht0 => ⟨rfl, rfl⟩)
  · refine q_tableIn C dX6_numberOfAll_1 174 (by decide) (by decide) rfl (by decide) ?_
    refine q_aload_n C dX6_numberOfAll_174 175 0 rfl rfl ?_
    obtain rfl := hX
    have hXox17 : k_isX cI h0 aO aY aN hsn aT aK [(h0, .inr (5, [.ref aO, .ref aY, .ref aN, .int hsn, .ref aT, .ref aK]))] := rfl
    refine q_get (k := 0) (j := 0) (f := 0) C hinX6 f12 (fun _ h => h) (by decide) rfl dX6_numberOfAll_175 178 rfl rfl rfl rfl ?_
    obtain rfl := hO
    have hOox18 : k_isO cI aO aB aL aS sc [(aO, .inr (3, [.ref aB, .ref aL, .ref aS, .int (sc 3), .int (sc 5), .int (sc 6), .int (sc 7), .int (sc 8), .int (sc 9), .int (sc 10), .int (sc 11)]))] := rfl
    refine q_getN (k := 1) (j := 0) (f := 0) C hinX4 f111 (fun _ h => h) (by decide) rfl dX6_numberOfAll_178 181 rfl rfl rfl rfl ?_
    obtain ⟨hatx19, hokx19, hsx19, hhx19, fsx19, fhx19, hrelx19, rfl⟩ := hB
    have hBx19 : k_isB cI aB bx at0 [(aB, .inr (0, [.ref hsx19, .ref hhx19, .int (nI at0)])), (hsx19, .inl (cI, 240, .inl fsx19)), (hhx19, .inl (cI, 12, .inl fhx19))] := ⟨hatx19, hokx19, hsx19, hhx19, fsx19, fhx19, hrelx19, rfl⟩
    refine q_getN (k := 3) (j := 0) (f := 2) C hinX0 f268 (fun _ h => h) (by decide) rfl dX6_numberOfAll_181 184 rfl rfl rfl rfl ?_
    exact q_iret C B dX6_numberOfAll_184 rfl rfl (fun t0 ht0 => ⟨rfl, rfl⟩)
  · refine q_tableIn C dX6_numberOfAll_1 185 (by decide) (by decide) rfl (by decide) ?_
    refine q_aload_n C dX6_numberOfAll_185 186 0 rfl rfl ?_
    obtain rfl := hX
    have hXox20 : k_isX cI h0 aO aY aN hsn aT aK [(h0, .inr (5, [.ref aO, .ref aY, .ref aN, .int hsn, .ref aT, .ref aK]))] := rfl
    refine q_get (k := 0) (j := 0) (f := 0) C hinX6 f12 (fun _ h => h) (by decide) rfl dX6_numberOfAll_186 189 rfl rfl rfl rfl ?_
    obtain rfl := hO
    have hOox21 : k_isO cI aO aB aL aS sc [(aO, .inr (3, [.ref aB, .ref aL, .ref aS, .int (sc 3), .int (sc 5), .int (sc 6), .int (sc 7), .int (sc 8), .int (sc 9), .int (sc 10), .int (sc 11)]))] := rfl
    refine q_getN (k := 1) (j := 0) (f := 4) C hinX4 f292 (fun _ h => h) (by decide) rfl dX6_numberOfAll_189 192 rfl rfl rfl rfl ?_
    exact q_iret C B dX6_numberOfAll_192 rfl rfl (fun t0 ht0 => ⟨rfl, rfl⟩)
  · refine q_tableIn C dX6_numberOfAll_1 193 (by decide) (by decide) rfl (by decide) ?_
    refine q_aload_n C dX6_numberOfAll_193 194 0 rfl rfl ?_
    obtain rfl := hX
    have hXox22 : k_isX cI h0 aO aY aN hsn aT aK [(h0, .inr (5, [.ref aO, .ref aY, .ref aN, .int hsn, .ref aT, .ref aK]))] := rfl
    refine q_get (k := 0) (j := 0) (f := 0) C hinX6 f12 (fun _ h => h) (by decide) rfl dX6_numberOfAll_194 197 rfl rfl rfl rfl ?_
    obtain rfl := hO
    have hOox23 : k_isO cI aO aB aL aS sc [(aO, .inr (3, [.ref aB, .ref aL, .ref aS, .int (sc 3), .int (sc 5), .int (sc 6), .int (sc 7), .int (sc 8), .int (sc 9), .int (sc 10), .int (sc 11)]))] := rfl
    refine q_getN (k := 1) (j := 0) (f := 5) C hinX4 f295 (fun _ h => h) (by decide) rfl dX6_numberOfAll_197 200 rfl rfl rfl rfl ?_
    exact q_iret C B dX6_numberOfAll_200 rfl rfl (fun t0 ht0 => ⟨rfl, rfl⟩)
  · refine q_tableIn C dX6_numberOfAll_1 201 (by decide) (by decide) rfl (by decide) ?_
    refine q_aload_n C dX6_numberOfAll_201 202 0 rfl rfl ?_
    obtain rfl := hX
    have hXox24 : k_isX cI h0 aO aY aN hsn aT aK [(h0, .inr (5, [.ref aO, .ref aY, .ref aN, .int hsn, .ref aT, .ref aK]))] := rfl
    refine q_get (k := 0) (j := 0) (f := 0) C hinX6 f12 (fun _ h => h) (by decide) rfl dX6_numberOfAll_202 205 rfl rfl rfl rfl ?_
    obtain rfl := hO
    have hOox25 : k_isO cI aO aB aL aS sc [(aO, .inr (3, [.ref aB, .ref aL, .ref aS, .int (sc 3), .int (sc 5), .int (sc 6), .int (sc 7), .int (sc 8), .int (sc 9), .int (sc 10), .int (sc 11)]))] := rfl
    refine q_getN (k := 1) (j := 0) (f := 6) C hinX4 f298 (fun _ h => h) (by decide) rfl dX6_numberOfAll_205 208 rfl rfl rfl rfl ?_
    exact q_iret C B dX6_numberOfAll_208 rfl rfl (fun t0 ht0 => ⟨rfl, rfl⟩)
  · refine q_tableIn C dX6_numberOfAll_1 209 (by decide) (by decide) rfl (by decide) ?_
    refine q_aload_n C dX6_numberOfAll_209 210 0 rfl rfl ?_
    obtain rfl := hX
    have hXox26 : k_isX cI h0 aO aY aN hsn aT aK [(h0, .inr (5, [.ref aO, .ref aY, .ref aN, .int hsn, .ref aT, .ref aK]))] := rfl
    refine q_get (k := 0) (j := 0) (f := 0) C hinX6 f12 (fun _ h => h) (by decide) rfl dX6_numberOfAll_210 213 rfl rfl rfl rfl ?_
    obtain rfl := hO
    have hOox27 : k_isO cI aO aB aL aS sc [(aO, .inr (3, [.ref aB, .ref aL, .ref aS, .int (sc 3), .int (sc 5), .int (sc 6), .int (sc 7), .int (sc 8), .int (sc 9), .int (sc 10), .int (sc 11)]))] := rfl
    refine q_getN (k := 1) (j := 0) (f := 7) C hinX4 f301 (fun _ h => h) (by decide) rfl dX6_numberOfAll_213 216 rfl rfl rfl rfl ?_
    exact q_iret C B dX6_numberOfAll_216 rfl rfl (fun t0 ht0 => ⟨rfl, rfl⟩)
  · refine q_tableIn C dX6_numberOfAll_1 217 (by decide) (by decide) rfl (by decide) ?_
    refine q_aload_n C dX6_numberOfAll_217 218 0 rfl rfl ?_
    obtain rfl := hX
    have hXox28 : k_isX cI h0 aO aY aN hsn aT aK [(h0, .inr (5, [.ref aO, .ref aY, .ref aN, .int hsn, .ref aT, .ref aK]))] := rfl
    refine q_get (k := 0) (j := 0) (f := 0) C hinX6 f12 (fun _ h => h) (by decide) rfl dX6_numberOfAll_218 221 rfl rfl rfl rfl ?_
    obtain rfl := hO
    have hOox29 : k_isO cI aO aB aL aS sc [(aO, .inr (3, [.ref aB, .ref aL, .ref aS, .int (sc 3), .int (sc 5), .int (sc 6), .int (sc 7), .int (sc 8), .int (sc 9), .int (sc 10), .int (sc 11)]))] := rfl
    refine q_getN (k := 1) (j := 0) (f := 8) C hinX4 f304 (fun _ h => h) (by decide) rfl dX6_numberOfAll_221 224 rfl rfl rfl rfl ?_
    exact q_iret C B dX6_numberOfAll_224 rfl rfl (fun t0 ht0 => ⟨rfl, rfl⟩)
  · refine q_tableIn C dX6_numberOfAll_1 225 (by decide) (by decide) rfl (by decide) ?_
    refine q_aload_n C dX6_numberOfAll_225 226 0 rfl rfl ?_
    obtain rfl := hX
    have hXox30 : k_isX cI h0 aO aY aN hsn aT aK [(h0, .inr (5, [.ref aO, .ref aY, .ref aN, .int hsn, .ref aT, .ref aK]))] := rfl
    refine q_get (k := 0) (j := 0) (f := 0) C hinX6 f12 (fun _ h => h) (by decide) rfl dX6_numberOfAll_226 229 rfl rfl rfl rfl ?_
    refine q_iload_n C dX6_numberOfAll_229 230 1 rfl rfl ?_
    refine q_bipush (v := nI 14) C dX6_numberOfAll_230 232 rfl (by decide) ?_
    refine q_isub (v := nI 0) C dX6_numberOfAll_232 233 rfl (q_nsub (by omega) (by omega)) ?_
    refine q_callV (k := 1) (ci := 3) (n := 1) (rest := []) (Rr := [[(h0, .inr (5, [.ref aO, .ref aY, .ref aN, .int hsn, .ref aT, .ref aK]))], wB, wL, wY]) C rfl (k_isO_recv hO) rfl (c_X4_settingAt l hZ hI aO aB aL aS sc wO hO wA hA 0 (by omega)) gX6_numberOfAll_X4_settingAt rfl rfl rfl (by decide +kernel) B.1 ⟨Nat.le_of_ble_eq_true rfl, Nat.le_of_ble_eq_true rfl⟩ rfl rfl (Nat.le_of_ble_eq_true rfl) dX6_numberOfAll_233 ⟨Nat.le_of_ble_eq_true rfl, Nat.le_of_ble_eq_true rfl⟩ [1, 2] [0, 3, 4, 5] (by decide : ([1, 2] ++ ([0, 3, 4, 5] : List Nat)).Perm (List.range 6)) rfl rfl 236 rfl (fun v0 R0 t0 ht0 hp0 => ?_)
    obtain ⟨rfl, rfl⟩ := hp0
    refine q_eqs (st' := [.int (sc 0)]) rfl ?_
    refine q_reord [2, 0, 1, 3, 4, 5] (by decide : ([2, 0, 1, 3, 4, 5] : List Nat).Perm (List.range 6)) (Rs' := [[(h0, .inr (5, [.ref aO, .ref aY, .ref aN, .int hsn, .ref aT, .ref aK]))], wO, wA, wB, wL, wY]) rfl rfl ?_
    exact q_iret C B dX6_numberOfAll_236 rfl rfl (fun t0 ht0 => ⟨rfl, rfl⟩)
  · refine q_tableIn C dX6_numberOfAll_1 225 (by decide) (by decide) rfl (by decide) ?_
    refine q_aload_n C dX6_numberOfAll_225 226 0 rfl rfl ?_
    obtain rfl := hX
    have hXox31 : k_isX cI h0 aO aY aN hsn aT aK [(h0, .inr (5, [.ref aO, .ref aY, .ref aN, .int hsn, .ref aT, .ref aK]))] := rfl
    refine q_get (k := 0) (j := 0) (f := 0) C hinX6 f12 (fun _ h => h) (by decide) rfl dX6_numberOfAll_226 229 rfl rfl rfl rfl ?_
    refine q_iload_n C dX6_numberOfAll_229 230 1 rfl rfl ?_
    refine q_bipush (v := nI 14) C dX6_numberOfAll_230 232 rfl (by decide) ?_
    refine q_isub (v := nI 1) C dX6_numberOfAll_232 233 rfl (q_nsub (by omega) (by omega)) ?_
    refine q_callV (k := 1) (ci := 3) (n := 1) (rest := []) (Rr := [[(h0, .inr (5, [.ref aO, .ref aY, .ref aN, .int hsn, .ref aT, .ref aK]))], wB, wL, wY]) C rfl (k_isO_recv hO) rfl (c_X4_settingAt l hZ hI aO aB aL aS sc wO hO wA hA 1 (by omega)) gX6_numberOfAll_X4_settingAt rfl rfl rfl (by decide +kernel) B.1 ⟨Nat.le_of_ble_eq_true rfl, Nat.le_of_ble_eq_true rfl⟩ rfl rfl (Nat.le_of_ble_eq_true rfl) dX6_numberOfAll_233 ⟨Nat.le_of_ble_eq_true rfl, Nat.le_of_ble_eq_true rfl⟩ [1, 2] [0, 3, 4, 5] (by decide : ([1, 2] ++ ([0, 3, 4, 5] : List Nat)).Perm (List.range 6)) rfl rfl 236 rfl (fun v0 R0 t0 ht0 hp0 => ?_)
    obtain ⟨rfl, rfl⟩ := hp0
    refine q_eqs (st' := [.int (sc 1)]) rfl ?_
    refine q_reord [2, 0, 1, 3, 4, 5] (by decide : ([2, 0, 1, 3, 4, 5] : List Nat).Perm (List.range 6)) (Rs' := [[(h0, .inr (5, [.ref aO, .ref aY, .ref aN, .int hsn, .ref aT, .ref aK]))], wO, wA, wB, wL, wY]) rfl rfl ?_
    exact q_iret C B dX6_numberOfAll_236 rfl rfl (fun t0 ht0 => ⟨rfl, rfl⟩)
  · refine q_tableIn C dX6_numberOfAll_1 225 (by decide) (by decide) rfl (by decide) ?_
    refine q_aload_n C dX6_numberOfAll_225 226 0 rfl rfl ?_
    obtain rfl := hX
    have hXox32 : k_isX cI h0 aO aY aN hsn aT aK [(h0, .inr (5, [.ref aO, .ref aY, .ref aN, .int hsn, .ref aT, .ref aK]))] := rfl
    refine q_get (k := 0) (j := 0) (f := 0) C hinX6 f12 (fun _ h => h) (by decide) rfl dX6_numberOfAll_226 229 rfl rfl rfl rfl ?_
    refine q_iload_n C dX6_numberOfAll_229 230 1 rfl rfl ?_
    refine q_bipush (v := nI 14) C dX6_numberOfAll_230 232 rfl (by decide) ?_
    refine q_isub (v := nI 2) C dX6_numberOfAll_232 233 rfl (q_nsub (by omega) (by omega)) ?_
    refine q_callV (k := 1) (ci := 3) (n := 1) (rest := []) (Rr := [[(h0, .inr (5, [.ref aO, .ref aY, .ref aN, .int hsn, .ref aT, .ref aK]))], wB, wL, wY]) C rfl (k_isO_recv hO) rfl (c_X4_settingAt l hZ hI aO aB aL aS sc wO hO wA hA 2 (by omega)) gX6_numberOfAll_X4_settingAt rfl rfl rfl (by decide +kernel) B.1 ⟨Nat.le_of_ble_eq_true rfl, Nat.le_of_ble_eq_true rfl⟩ rfl rfl (Nat.le_of_ble_eq_true rfl) dX6_numberOfAll_233 ⟨Nat.le_of_ble_eq_true rfl, Nat.le_of_ble_eq_true rfl⟩ [1, 2] [0, 3, 4, 5] (by decide : ([1, 2] ++ ([0, 3, 4, 5] : List Nat)).Perm (List.range 6)) rfl rfl 236 rfl (fun v0 R0 t0 ht0 hp0 => ?_)
    obtain ⟨rfl, rfl⟩ := hp0
    refine q_eqs (st' := [.int (sc 2)]) rfl ?_
    refine q_reord [2, 0, 1, 3, 4, 5] (by decide : ([2, 0, 1, 3, 4, 5] : List Nat).Perm (List.range 6)) (Rs' := [[(h0, .inr (5, [.ref aO, .ref aY, .ref aN, .int hsn, .ref aT, .ref aK]))], wO, wA, wB, wL, wY]) rfl rfl ?_
    exact q_iret C B dX6_numberOfAll_236 rfl rfl (fun t0 ht0 => ⟨rfl, rfl⟩)
  · refine q_tableOut C dX6_numberOfAll_1 237 (by decide) (by decide) ?_
    refine q_aload_n C dX6_numberOfAll_237 238 0 rfl rfl ?_
    obtain rfl := hX
    have hXox33 : k_isX cI h0 aO aY aN hsn aT aK [(h0, .inr (5, [.ref aO, .ref aY, .ref aN, .int hsn, .ref aT, .ref aK]))] := rfl
    refine q_get (k := 0) (j := 0) (f := 1) C hinX6 f19 (fun _ h => h) (by decide) rfl dX6_numberOfAll_238 241 rfl rfl rfl rfl ?_
    obtain rfl := hY
    have hYox34 : k_isY cI aY aG nx sz [(aY, .inr (1, [.ref aG, .int (nI nx), .int (nI sz)]))] := rfl
    refine q_getN (k := 5) (j := 0) (f := 2) C hinX1 f180 (fun _ h => h) (by decide) rfl dX6_numberOfAll_241 244 rfl rfl rfl rfl ?_
    exact q_iret C B dX6_numberOfAll_244 rfl rfl (fun t0 ht0 => ⟨rfl, rfl⟩)

set_option maxHeartbeats 400000 in
set_option maxRecDepth 100000 in
theorem c_X6_rightShare (l : Launch) {D : va_G} {tys : List (ClassId × FieldType)} {Z : (Nat → Prop) → State → Heap → Prop} (hZ : q_St Z) {cI : ClassId} (hI : tys[0]? = some (cI, .int)) (hN : q_Ns Z) (h0 : Nat) (aO : Nat) (aY : Nat) (aN : Nat) (hsn : Int32) (aT : Nat) (aK : Nat) (wX : va_W) (hX : k_isX cI h0 aO aY aN hsn aT aK wX) (aB : Nat) (aL : Nat) (aS : Nat) (sc : Nat → Int32) (wO : va_W) (hO : k_isO cI aO aB aL aS sc wO) (wA : va_W) (hA : k_isA cI aS sc wA) (ln : List (Nat × Nat)) (wL : va_W) (hL : k_isL cI aL ln wL) : q_Ct l D tys Z yX6_rightShare wsX6_rightShare ({ frames := 4, cells := 0, slots := 0, locals := 132 } : Room) 0 0 [.ref h0] [wX, wO, wA, wL] (fun v0 R0 _ => v0 = some (.double (k_sh ln)) ∧ R0 = [wX, wO, wA, wL]) := by
  have hcI := hI
  refine q_ct (cc := cX6_rightShare) (maxL := 2) (ret := (some .double)) (own := RX6) (by decide) rfl hZ (Nat.le_of_ble_eq_true rfl) rfl ?_
  intro p9 e9 R s9 m9 args below meth c9 A Q C B
  have hts := C.2.2.2.2.1
  have hinX6 : ∀ w ∈ u_ws RX6 TX6 6, w ∈ wsX6_rightShare := by decide +kernel
  have f12 := hts (.fieldLink RX6 12 "SortCases" "state" "LSortCases$State;") (by decide +kernel)
  have hinX4 : ∀ w ∈ u_ws RX4 TX4 11, w ∈ wsX6_rightShare := by decide +kernel
  have f79 := q_nsb hN C (by decide +kernel : Cond.fieldLinkNest "SortCases" 79 "SortCases$State" "line" "LSortCases$Line;" "SortCases" ∈ q_nest) rfl
  have hinX2 : ∀ w ∈ u_ws RX2 TX2 3, w ∈ wsX6_rightShare := by decide +kernel
  have f191 := q_nsb hN C (by decide +kernel : Cond.fieldLinkNest "SortCases" 191 "SortCases$Line" "length" "I" "SortCases" ∈ q_nest) rfl
  refine q_eqL (L' := [(0, .ref h0)]) rfl ?_
  refine q_aload_n C dX6_rightShare_0 1 0 rfl rfl ?_
  obtain rfl := hX
  have hXox1 : k_isX cI h0 aO aY aN hsn aT aK [(h0, .inr (5, [.ref aO, .ref aY, .ref aN, .int hsn, .ref aT, .ref aK]))] := rfl
  refine q_get (k := 0) (j := 0) (f := 0) C hinX6 f12 (fun _ h => h) (by decide) rfl dX6_rightShare_1 4 rfl rfl rfl rfl ?_
  obtain rfl := hO
  have hOox2 : k_isO cI aO aB aL aS sc [(aO, .inr (3, [.ref aB, .ref aL, .ref aS, .int (sc 3), .int (sc 5), .int (sc 6), .int (sc 7), .int (sc 8), .int (sc 9), .int (sc 10), .int (sc 11)]))] := rfl
  refine q_getN (k := 1) (j := 0) (f := 1) C hinX4 f79 (fun _ h => h) (by decide) rfl dX6_rightShare_4 7 rfl rfl rfl rfl ?_
  obtain ⟨hlokx3, hsx3, hlx3, f1x3, f2x3, hrelx3, rfl⟩ := hL
  have hlenx3 := hlokx3.1
  have hLx3 : k_isL cI aL ln [(aL, .inr (2, [.ref hsx3, .ref hlx3, .int (nI ln.length)])), (hsx3, .inl (cI, 72, .inl f1x3)), (hlx3, .inl (cI, 72, .inl f2x3))] := ⟨hlokx3, hsx3, hlx3, f1x3, f2x3, hrelx3, rfl⟩
  refine q_getN (k := 3) (j := 0) (f := 2) C hinX2 f191 (fun _ h => h) (by decide) rfl dX6_rightShare_7 10 rfl rfl rfl rfl ?_
  refine q_istore_n C dX6_rightShare_10 11 rfl [(1, .int (nI ln.length)), (0, .ref h0)] (by decide) rfl ?_
  refine q_iload_n C dX6_rightShare_11 12 0 rfl rfl ?_
  refine q_if_gt C dX6_rightShare_12 15 17 rfl (by decide) (q_gt0 (by omega)) (fun h12 => ?_) (fun h12 => ?_)
  · refine q_iload_n C dX6_rightShare_17 18 0 rfl rfl ?_
    refine q_aload_n C dX6_rightShare_18 19 1 rfl rfl ?_
    refine q_get (k := 0) (j := 0) (f := 0) C hinX6 f12 (fun _ h => h) (by decide) rfl dX6_rightShare_19 22 rfl rfl rfl rfl ?_
    refine q_getN (k := 1) (j := 0) (f := 1) C hinX4 f79 (fun _ h => h) (by decide) rfl dX6_rightShare_22 25 rfl rfl rfl rfl ?_
    refine q_callV (k := 3) (ci := 2) (n := 0) (rest := [.int (nI ln.length)]) (Rr := [[(h0, .inr (5, [.ref aO, .ref aY, .ref aN, .int hsn, .ref aT, .ref aK]))], [(aO, .inr (3, [.ref aB, .ref aL, .ref aS, .int (sc 3), .int (sc 5), .int (sc 6), .int (sc 7), .int (sc 8), .int (sc 9), .int (sc 10), .int (sc 11)]))], wA]) C rfl (k_isL_recv hLx3) rfl (c_X2_errors l hZ hI aL ln ([(aL, .inr (2, [.ref hsx3, .ref hlx3, .int (nI ln.length)])), (hsx3, .inl (cI, 72, .inl f1x3)), (hlx3, .inl (cI, 72, .inl f2x3))]) hLx3) gX6_rightShare_X2_errors rfl rfl rfl (by decide +kernel) B.1 ⟨Nat.le_of_ble_eq_true rfl, Nat.le_of_ble_eq_true rfl⟩ rfl rfl (Nat.le_of_ble_eq_true rfl) dX6_rightShare_25 ⟨Nat.le_of_ble_eq_true rfl, Nat.le_of_ble_eq_true rfl⟩ [3] [0, 1, 2] (by decide : ([3] ++ ([0, 1, 2] : List Nat)).Perm (List.range 4)) rfl rfl 28 rfl (fun v0 R0 t0 ht0 hp0 => ?_)
    obtain ⟨rfl, rfl⟩ := hp0
    refine q_eqs (st' := [.int (nI (k_er ln)), .int (nI ln.length)]) rfl ?_
    refine q_reord [1, 2, 3, 0] (by decide : ([1, 2, 3, 0] : List Nat).Perm (List.range 4)) (Rs' := [[(h0, .inr (5, [.ref aO, .ref aY, .ref aN, .int hsn, .ref aT, .ref aK]))], [(aO, .inr (3, [.ref aB, .ref aL, .ref aS, .int (sc 3), .int (sc 5), .int (sc 6), .int (sc 7), .int (sc 8), .int (sc 9), .int (sc 10), .int (sc 11)]))], wA, [(aL, .inr (2, [.ref hsx3, .ref hlx3, .int (nI ln.length)])), (hsx3, .inl (cI, 72, .inl f1x3)), (hlx3, .inl (cI, 72, .inl f2x3))]]) rfl rfl ?_
    have hc25 : k_er ln ≤ (ln).length := k_er_le _
    refine q_isub (v := nI (ln.length - k_er ln)) C dX6_rightShare_28 29 rfl (q_nsub (by omega) rfl) ?_
    refine q_i2d C dX6_rightShare_29 30 rfl ?_
    refine q_iload_n C dX6_rightShare_30 31 0 rfl rfl ?_
    refine q_i2d C dX6_rightShare_31 32 rfl ?_
    refine q_ddiv C dX6_rightShare_32 33 rfl (k_shq_nn (by omega) (by omega) (by omega)) rfl ?_
    exact q_dret C B dX6_rightShare_33 rfl rfl (fun t0 ht0 => ⟨by rw [k_sh_n (by omega)], rfl⟩)
  · refine q_dconst1 C dX6_rightShare_15 16 rfl ?_
    exact q_dret C B dX6_rightShare_16 rfl rfl (fun t0 ht0 => ⟨by rw [k_sh_0 (by omega)], rfl⟩)

set_option maxHeartbeats 400000 in
set_option maxRecDepth 100000 in
theorem c_X6_sortedIn (l : Launch) {D : va_G} {tys : List (ClassId × FieldType)} {Z : (Nat → Prop) → State → Heap → Prop} (hZ : q_St Z) {cI : ClassId} (hI : tys[0]? = some (cI, .int)) (hN : q_Ns Z) (h0 : Nat) (aO : Nat) (aY : Nat) (aN : Nat) (hsn : Int32) (aT : Nat) (aK : Nat) (wX : va_W) (hX : k_isX cI h0 aO aY aN hsn aT aK wX) (aB : Nat) (aL : Nat) (aS : Nat) (sc : Nat → Int32) (wO : va_W) (hO : k_isO cI aO aB aL aS sc wO) (wA : va_W) (hA : k_isA cI aS sc wA) (bx : k_Bx) (at0 : Nat) (wB : va_W) (hB : k_isB cI aB bx at0 wB) (kbx : k_Bx) (kat0 : Nat) (kw : va_W) (kh : k_isB cI aK kbx kat0 kw) (hty : k_ty bx ≤ 72) : q_Ct l D tys Z yX6_sortedIn wsX6_sortedIn ({ frames := 4, cells := 0, slots := 0, locals := 132 } : Room) 0 0 [.ref h0] [wX, wO, wA, wB, kw] (fun v0 R0 _ => v0 = some (.int (nI (k_lm bx at0 (-1) (k_T bx at0)))) ∧ ∃ kw', k_isB cI aK ((k_bs bx at0 (-1) (k_T bx at0)).1) ((k_bs bx at0 (-1) (k_T bx at0)).2) kw' ∧ R0 = [wX, wO, wA, wB, kw']) := by
  have hcI := hI
  refine q_ct (cc := cX6_sortedIn) (maxL := 1) (ret := (some .int)) (own := RX6) (by decide) rfl hZ (Nat.le_of_ble_eq_true rfl) rfl ?_
  intro p9 e9 R s9 m9 args below meth c9 A Q C B
  have hts := C.2.2.2.2.1
  have hinX6 : ∀ w ∈ u_ws RX6 TX6 6, w ∈ wsX6_sortedIn := by decide +kernel
  have f40 := hts (.fieldLink RX6 40 "SortCases" "trial" "LSortCases$Boxes;") (by decide +kernel)
  have f12 := hts (.fieldLink RX6 12 "SortCases" "state" "LSortCases$State;") (by decide +kernel)
  have hinX4 : ∀ w ∈ u_ws RX4 TX4 11, w ∈ wsX6_sortedIn := by decide +kernel
  have f111 := q_nsb hN C (by decide +kernel : Cond.fieldLinkNest "SortCases" 111 "SortCases$State" "boxes" "LSortCases$Boxes;" "SortCases" ∈ q_nest) rfl
  refine q_eqL (L' := [(0, .ref h0)]) rfl ?_
  refine q_aload_n C dX6_sortedIn_0 1 0 rfl rfl ?_
  obtain rfl := hX
  have hXox1 : k_isX cI h0 aO aY aN hsn aT aK [(h0, .inr (5, [.ref aO, .ref aY, .ref aN, .int hsn, .ref aT, .ref aK]))] := rfl
  refine q_get (k := 0) (j := 0) (f := 5) C hinX6 f40 (fun _ h => h) (by decide) rfl dX6_sortedIn_1 4 rfl rfl rfl rfl ?_
  refine q_aload_n C dX6_sortedIn_4 5 0 rfl rfl ?_
  refine q_get (k := 0) (j := 0) (f := 0) C hinX6 f12 (fun _ h => h) (by decide) rfl dX6_sortedIn_5 8 rfl rfl rfl rfl ?_
  obtain rfl := hO
  have hOox2 : k_isO cI aO aB aL aS sc [(aO, .inr (3, [.ref aB, .ref aL, .ref aS, .int (sc 3), .int (sc 5), .int (sc 6), .int (sc 7), .int (sc 8), .int (sc 9), .int (sc 10), .int (sc 11)]))] := rfl
  refine q_getN (k := 1) (j := 0) (f := 0) C hinX4 f111 (fun _ h => h) (by decide) rfl dX6_sortedIn_8 11 rfl rfl rfl rfl ?_
  refine q_callV (k := 4) (ci := 0) (n := 1) (rest := []) (Rr := [[(h0, .inr (5, [.ref aO, .ref aY, .ref aN, .int hsn, .ref aT, .ref aK]))], [(aO, .inr (3, [.ref aB, .ref aL, .ref aS, .int (sc 3), .int (sc 5), .int (sc 6), .int (sc 7), .int (sc 8), .int (sc 9), .int (sc 10), .int (sc 11)]))], wA]) C rfl (k_isB_recv kh) rfl (c_X0_copyFrom l hZ hI aK kbx kat0 kw kh aB bx at0 wB hB) gX6_sortedIn_X0_copyFrom rfl rfl rfl (by decide +kernel) B.1 ⟨Nat.le_of_ble_eq_true rfl, Nat.le_of_ble_eq_true rfl⟩ rfl rfl (Nat.le_of_ble_eq_true rfl) dX6_sortedIn_11 ⟨Nat.le_of_ble_eq_true rfl, Nat.le_of_ble_eq_true rfl⟩ [4, 3] [0, 1, 2] (by decide : ([4, 3] ++ ([0, 1, 2] : List Nat)).Perm (List.range 5)) rfl rfl 14 rfl (fun v0 R0 t0 ht0 hp0 => ?_)
  obtain ⟨rfl, w_11, hw_11, rfl⟩ := hp0
  refine q_eqs (st' := []) rfl ?_
  refine q_reord [2, 3, 4, 1, 0] (by decide : ([2, 3, 4, 1, 0] : List Nat).Perm (List.range 5)) (Rs' := [[(h0, .inr (5, [.ref aO, .ref aY, .ref aN, .int hsn, .ref aT, .ref aK]))], [(aO, .inr (3, [.ref aB, .ref aL, .ref aS, .int (sc 3), .int (sc 5), .int (sc 6), .int (sc 7), .int (sc 8), .int (sc 9), .int (sc 10), .int (sc 11)]))], wA, wB, w_11]) rfl rfl ?_
  refine q_aload_n C dX6_sortedIn_14 15 0 rfl rfl ?_
  refine q_get (k := 0) (j := 0) (f := 5) C hinX6 f40 (fun _ h => h) (by decide) rfl dX6_sortedIn_15 18 rfl rfl rfl rfl ?_
  refine q_callV (k := 4) (ci := 0) (n := 0) (rest := []) (Rr := [[(h0, .inr (5, [.ref aO, .ref aY, .ref aN, .int hsn, .ref aT, .ref aK]))], [(aO, .inr (3, [.ref aB, .ref aL, .ref aS, .int (sc 3), .int (sc 5), .int (sc 6), .int (sc 7), .int (sc 8), .int (sc 9), .int (sc 10), .int (sc 11)]))], wA, wB]) C rfl (k_isB_recv hw_11) rfl (c_X0_sortAll l hZ hI aK bx at0 w_11 hw_11 hty) gX6_sortedIn_X0_sortAll rfl rfl rfl (by decide +kernel) B.1 ⟨Nat.le_of_ble_eq_true rfl, Nat.le_of_ble_eq_true rfl⟩ rfl rfl (Nat.le_of_ble_eq_true rfl) dX6_sortedIn_18 ⟨Nat.le_of_ble_eq_true rfl, Nat.le_of_ble_eq_true rfl⟩ [4] [0, 1, 2, 3] (by decide : ([4] ++ ([0, 1, 2, 3] : List Nat)).Perm (List.range 5)) rfl rfl 21 rfl (fun v0 R0 t0 ht0 hp0 => ?_)
  obtain ⟨rfl, w_18, hw_18, rfl⟩ := hp0
  refine q_eqs (st' := [.int (nI (k_lm bx at0 (-1) (k_T bx at0)))]) rfl ?_
  refine q_reord [1, 2, 3, 4, 0] (by decide : ([1, 2, 3, 4, 0] : List Nat).Perm (List.range 5)) (Rs' := [[(h0, .inr (5, [.ref aO, .ref aY, .ref aN, .int hsn, .ref aT, .ref aK]))], [(aO, .inr (3, [.ref aB, .ref aL, .ref aS, .int (sc 3), .int (sc 5), .int (sc 6), .int (sc 7), .int (sc 8), .int (sc 9), .int (sc 10), .int (sc 11)]))], wA, wB, w_18]) rfl rfl ?_
  exact q_iret C B dX6_sortedIn_21 rfl rfl (fun t0 ht0 => ⟨rfl, _, hw_18, rfl⟩)

set_option maxHeartbeats 400000 in
set_option maxRecDepth 100000 in
theorem c_X6_wrongThen (l : Launch) {D : va_G} {tys : List (ClassId × FieldType)} {Z : (Nat → Prop) → State → Heap → Prop} (hZ : q_St Z) {cI : ClassId} (hI : tys[0]? = some (cI, .int)) (hN : q_Ns Z) (h0 : Nat) (aO : Nat) (aY : Nat) (aN : Nat) (hsn : Int32) (aT : Nat) (aK : Nat) (wX : va_W) (hX : k_isX cI h0 aO aY aN hsn aT aK wX) (aB : Nat) (aL : Nat) (aS : Nat) (sc : Nat → Int32) (wO : va_W) (hO : k_isO cI aO aB aL aS sc wO) (wA : va_W) (hA : k_isA cI aS sc wA) (bx : k_Bx) (at0 : Nat) (wB : va_W) (hB : k_isB cI aB bx at0 wB) (kbx : k_Bx) (kat0 : Nat) (kw : va_W) (kh : k_isB cI aK kbx kat0 kw) (hty : k_ty bx ≤ 72) : q_Ct l D tys Z yX6_wrongThen wsX6_wrongThen ({ frames := 5, cells := 0, slots := 0, locals := 162 } : Room) 0 0 [.ref h0] [wX, wO, wA, wB, kw] (fun v0 R0 _ => v0 = some (.int (nI (k_wr (k_bs bx at0 (-1) (k_T bx at0)).1))) ∧ ∃ kw', k_isB cI aK ((k_bs bx at0 (-1) (k_T bx at0)).1) ((k_bs bx at0 (-1) (k_T bx at0)).2) kw' ∧ R0 = [wX, wO, wA, wB, kw']) := by
  have hcI := hI
  refine q_ct (cc := cX6_wrongThen) (maxL := 1) (ret := (some .int)) (own := RX6) (by decide) rfl hZ (Nat.le_of_ble_eq_true rfl) rfl ?_
  intro p9 e9 R s9 m9 args below meth c9 A Q C B
  have hts := C.2.2.2.2.1
  have hinX6 : ∀ w ∈ u_ws RX6 TX6 6, w ∈ wsX6_wrongThen := by decide +kernel
  have f40 := hts (.fieldLink RX6 40 "SortCases" "trial" "LSortCases$Boxes;") (by decide +kernel)
  have f12 := hts (.fieldLink RX6 12 "SortCases" "state" "LSortCases$State;") (by decide +kernel)
  have hinX4 : ∀ w ∈ u_ws RX4 TX4 11, w ∈ wsX6_wrongThen := by decide +kernel
  have f111 := q_nsb hN C (by decide +kernel : Cond.fieldLinkNest "SortCases" 111 "SortCases$State" "boxes" "LSortCases$Boxes;" "SortCases" ∈ q_nest) rfl
  refine q_eqL (L' := [(0, .ref h0)]) rfl ?_
  refine q_aload_n C dX6_wrongThen_0 1 0 rfl rfl ?_
  obtain rfl := hX
  have hXox1 : k_isX cI h0 aO aY aN hsn aT aK [(h0, .inr (5, [.ref aO, .ref aY, .ref aN, .int hsn, .ref aT, .ref aK]))] := rfl
  refine q_get (k := 0) (j := 0) (f := 5) C hinX6 f40 (fun _ h => h) (by decide) rfl dX6_wrongThen_1 4 rfl rfl rfl rfl ?_
  refine q_aload_n C dX6_wrongThen_4 5 0 rfl rfl ?_
  refine q_get (k := 0) (j := 0) (f := 0) C hinX6 f12 (fun _ h => h) (by decide) rfl dX6_wrongThen_5 8 rfl rfl rfl rfl ?_
  obtain rfl := hO
  have hOox2 : k_isO cI aO aB aL aS sc [(aO, .inr (3, [.ref aB, .ref aL, .ref aS, .int (sc 3), .int (sc 5), .int (sc 6), .int (sc 7), .int (sc 8), .int (sc 9), .int (sc 10), .int (sc 11)]))] := rfl
  refine q_getN (k := 1) (j := 0) (f := 0) C hinX4 f111 (fun _ h => h) (by decide) rfl dX6_wrongThen_8 11 rfl rfl rfl rfl ?_
  refine q_callV (k := 4) (ci := 0) (n := 1) (rest := []) (Rr := [[(h0, .inr (5, [.ref aO, .ref aY, .ref aN, .int hsn, .ref aT, .ref aK]))], [(aO, .inr (3, [.ref aB, .ref aL, .ref aS, .int (sc 3), .int (sc 5), .int (sc 6), .int (sc 7), .int (sc 8), .int (sc 9), .int (sc 10), .int (sc 11)]))], wA]) C rfl (k_isB_recv kh) rfl (c_X0_copyFrom l hZ hI aK kbx kat0 kw kh aB bx at0 wB hB) gX6_wrongThen_X0_copyFrom rfl rfl rfl (by decide +kernel) B.1 ⟨Nat.le_of_ble_eq_true rfl, Nat.le_of_ble_eq_true rfl⟩ rfl rfl (Nat.le_of_ble_eq_true rfl) dX6_wrongThen_11 ⟨Nat.le_of_ble_eq_true rfl, Nat.le_of_ble_eq_true rfl⟩ [4, 3] [0, 1, 2] (by decide : ([4, 3] ++ ([0, 1, 2] : List Nat)).Perm (List.range 5)) rfl rfl 14 rfl (fun v0 R0 t0 ht0 hp0 => ?_)
  obtain ⟨rfl, w_11, hw_11, rfl⟩ := hp0
  refine q_eqs (st' := []) rfl ?_
  refine q_reord [2, 3, 4, 1, 0] (by decide : ([2, 3, 4, 1, 0] : List Nat).Perm (List.range 5)) (Rs' := [[(h0, .inr (5, [.ref aO, .ref aY, .ref aN, .int hsn, .ref aT, .ref aK]))], [(aO, .inr (3, [.ref aB, .ref aL, .ref aS, .int (sc 3), .int (sc 5), .int (sc 6), .int (sc 7), .int (sc 8), .int (sc 9), .int (sc 10), .int (sc 11)]))], wA, wB, w_11]) rfl rfl ?_
  refine q_aload_n C dX6_wrongThen_14 15 0 rfl rfl ?_
  refine q_get (k := 0) (j := 0) (f := 5) C hinX6 f40 (fun _ h => h) (by decide) rfl dX6_wrongThen_15 18 rfl rfl rfl rfl ?_
  refine q_callV (k := 4) (ci := 0) (n := 0) (rest := []) (Rr := [[(h0, .inr (5, [.ref aO, .ref aY, .ref aN, .int hsn, .ref aT, .ref aK]))], [(aO, .inr (3, [.ref aB, .ref aL, .ref aS, .int (sc 3), .int (sc 5), .int (sc 6), .int (sc 7), .int (sc 8), .int (sc 9), .int (sc 10), .int (sc 11)]))], wA, wB]) C rfl (k_isB_recv hw_11) rfl (c_X0_sortAll l hZ hI aK bx at0 w_11 hw_11 hty) gX6_wrongThen_X0_sortAll rfl rfl rfl (by decide +kernel) B.1 ⟨Nat.le_of_ble_eq_true rfl, Nat.le_of_ble_eq_true rfl⟩ rfl rfl (Nat.le_of_ble_eq_true rfl) dX6_wrongThen_18 ⟨Nat.le_of_ble_eq_true rfl, Nat.le_of_ble_eq_true rfl⟩ [4] [0, 1, 2, 3] (by decide : ([4] ++ ([0, 1, 2, 3] : List Nat)).Perm (List.range 5)) rfl rfl 21 rfl (fun v0 R0 t0 ht0 hp0 => ?_)
  obtain ⟨rfl, w_18, hw_18, rfl⟩ := hp0
  refine q_eqs (st' := [.int (nI (k_lm bx at0 (-1) (k_T bx at0)))]) rfl ?_
  refine q_reord [1, 2, 3, 4, 0] (by decide : ([1, 2, 3, 4, 0] : List Nat).Perm (List.range 5)) (Rs' := [[(h0, .inr (5, [.ref aO, .ref aY, .ref aN, .int hsn, .ref aT, .ref aK]))], [(aO, .inr (3, [.ref aB, .ref aL, .ref aS, .int (sc 3), .int (sc 5), .int (sc 6), .int (sc 7), .int (sc 8), .int (sc 9), .int (sc 10), .int (sc 11)]))], wA, wB, w_18]) rfl rfl ?_
  refine q_pop C dX6_wrongThen_21 22 rfl rfl ?_
  refine q_aload_n C dX6_wrongThen_22 23 0 rfl rfl ?_
  refine q_get (k := 0) (j := 0) (f := 5) C hinX6 f40 (fun _ h => h) (by decide) rfl dX6_wrongThen_23 26 rfl rfl rfl rfl ?_
  refine q_callV (k := 4) (ci := 0) (n := 0) (rest := []) (Rr := [[(h0, .inr (5, [.ref aO, .ref aY, .ref aN, .int hsn, .ref aT, .ref aK]))], [(aO, .inr (3, [.ref aB, .ref aL, .ref aS, .int (sc 3), .int (sc 5), .int (sc 6), .int (sc 7), .int (sc 8), .int (sc 9), .int (sc 10), .int (sc 11)]))], wA, wB]) C rfl (k_isB_recv hw_18) rfl (c_X0_wrong l hZ hI aK ((k_bs bx at0 (-1) (k_T bx at0)).1) ((k_bs bx at0 (-1) (k_T bx at0)).2) w_18 hw_18) gX6_wrongThen_X0_wrong rfl rfl rfl (by decide +kernel) B.1 ⟨Nat.le_of_ble_eq_true rfl, Nat.le_of_ble_eq_true rfl⟩ rfl rfl (Nat.le_of_ble_eq_true rfl) dX6_wrongThen_26 ⟨Nat.le_of_ble_eq_true rfl, Nat.le_of_ble_eq_true rfl⟩ [4] [0, 1, 2, 3] (by decide : ([4] ++ ([0, 1, 2, 3] : List Nat)).Perm (List.range 5)) rfl rfl 29 rfl (fun v0 R0 t0 ht0 hp0 => ?_)
  obtain ⟨rfl, rfl⟩ := hp0
  refine q_eqs (st' := [.int (nI (k_wr ((k_bs bx at0 (-1) (k_T bx at0)).1)))]) rfl ?_
  refine q_reord [1, 2, 3, 4, 0] (by decide : ([1, 2, 3, 4, 0] : List Nat).Perm (List.range 5)) (Rs' := [[(h0, .inr (5, [.ref aO, .ref aY, .ref aN, .int hsn, .ref aT, .ref aK]))], [(aO, .inr (3, [.ref aB, .ref aL, .ref aS, .int (sc 3), .int (sc 5), .int (sc 6), .int (sc 7), .int (sc 8), .int (sc 9), .int (sc 10), .int (sc 11)]))], wA, wB, w_18]) rfl rfl ?_
  exact q_iret C B dX6_wrongThen_29 rfl rfl (fun t0 ht0 => ⟨rfl, _, hw_18, rfl⟩)

