set_option maxHeartbeats 400000 in
set_option maxRecDepth 100000 in
theorem c_L_act_s0 (l : Launch) {D : va_G} {tys : List (ClassId × FieldType)} {Z : (Nat → Prop) → State → Heap → Prop} (hZ : q_St Z) {cI : ClassId} (hI : tys[0]? = some (cI, .int)) (hN : q_Ns Z) {cG : ClassId} (hG : tys[1]? = some (cG, .object "SortCases$State")) {tL tH : Nat} (hVs : q_Vs Z tL tH) (h0 : Nat) (aO : Nat) (aY : Nat) (aN : Nat) (hsn : Int32) (aT : Nat) (aK : Nat) (wX : va_W) (hX : k_isX cI h0 aO aY aN hsn aT aK wX) (aB : Nat) (aL : Nat) (aS : Nat) (sc : Nat → Int32) (wO : va_W) (hO : k_isO cI aO aB aL aS sc wO) (wA : va_W) (hA : k_isA cI aS sc wA) (bx : k_Bx) (at0 : Nat) (wB : va_W) (hB : k_isB cI aB bx at0 wB) (ln : List (Nat × Nat)) (wL : va_W) (hL : k_isL cI aL ln wL) (sv : List k_S) (wH : va_W) (hH : k_isH cG cI aY sv wH) (v : Int32) (w : Int32) (hIv : k_Iv (bx, at0, ln, sc)) (h2 : sc 2 = nI 0 ∨ sc 2 = nI 1) (hj : k_jj v < 6) (hw : ¬ k_wn bx ln sc (k_let w) = 0) : q_Ct l D tys Z yL_act wsL_act ({ frames := 9, cells := 0, slots := 0, locals := 282 } : Room) 0 0 [.ref h0, .int v, .int w] [wX, wO, wA, wB, wL, wH] (fun v0 R0 _ => v0 = some (.int (-9)) ∧ R0 = [wX, wO, wA, wB, wL, wH]) := by
  have hcI := hI
  have hcG := hG
  refine q_ct (cc := cL_act) (maxL := 6) (ret := (some .int)) (own := RL) (by decide) rfl hZ (Nat.le_of_ble_eq_true rfl) rfl ?_
  intro p9 e9 R s9 m9 args below meth c9 A Q C B
  have hts := C.2.2.2.2.1
  refine q_eqL (L' := [(0, .ref h0), (1, .int v), (2, .int w)]) rfl ?_
  have hll := hL.1.1
  have hok := hB.2.1
  have hcs := k_Cv_cs (S := (bx, at0, ln, sc)) hIv.2
  have hws := k_Cv_ws (S := (bx, at0, ln, sc)) hok hIv.2
  have hbw := k_b20_lt w
  have hlt := k_let_lt w
  have hwnl := k_wn_le bx ln sc (k_let w)
  have hj16 := k_jj_lt v
  refine q_iload_n C dL_act_0 1 2 rfl rfl ?_
  refine q_iload_n C dL_act_1 2 2 rfl rfl ?_
  refine q_bipush (v := nI 20) C dL_act_2 4 rfl (by decide) ?_
  refine q_ishr (v := w >>> 20) C dL_act_4 5 rfl (by rw [show nI 20 &&& 31 = (20 : Int32) by decide]) ?_
  refine q_iconst (v := nI 1) C dL_act_5 6 rfl (by decide) ?_
  refine q_iand (v := nI ((k_b20 w))) C dL_act_6 7 rfl (pk_and (w >>> 20) 1 (by decide)) ?_
  refine q_if_ne C dL_act_7 10 14 rfl (by decide) (q_eq0 (by omega)) (fun h7 => ?_) (fun h7 => ?_)
  · refine q_bipush (v := nI 12) C dL_act_14 16 rfl (by decide) ?_
    refine q_callS (n := 2) (rest := []) (Rr := [wX, wO, wA, wB, wL, wH]) C (c_L_low l hZ hI w 12 (by omega) (by omega)) gL_act_L_low rfl rfl rfl (by decide +kernel) B.1 ⟨Nat.le_of_ble_eq_true rfl, Nat.le_of_ble_eq_true rfl⟩ rfl rfl (Nat.le_of_ble_eq_true rfl) dL_act_16 ⟨(Nat.le_of_ble_eq_true rfl), (Nat.le_of_ble_eq_true rfl)⟩ [] [0, 1, 2, 3, 4, 5] (by decide : ([] ++ ([0, 1, 2, 3, 4, 5] : List Nat)).Perm (List.range 6)) rfl rfl 19 rfl (fun v0 R0 t0 ht0 hp0 => ?_)
    obtain ⟨rfl, rfl⟩ := hp0
    refine q_eqs (st' := [.int (nI (k_low w 12))]) rfl ?_
    refine q_eqR (Rs' := [wX, wO, wA, wB, wL, wH]) rfl ?_
    have hlw16 : k_low w 12 < 12 := k_low_lt (by omega)
    refine q_eqs (st' := [.int (nI (k_let w))]) (by rw [show k_let w = k_low w 12 from by unfold k_let; rw [if_neg (by omega)]]) ?_
    refine q_istore_n C dL_act_19 20 rfl [(3, .int (nI (k_let w))), (0, .ref h0), (1, .int v), (2, .int w)] (by decide) rfl ?_
    refine q_iload_n C dL_act_20 21 2 rfl rfl ?_
    refine q_bipush (v := nI 15) C dL_act_21 23 rfl (by decide) ?_
    refine q_iand (v := nI ((k_jj v))) C dL_act_23 24 rfl (pk_and v 4 (by decide)) ?_
    obtain ⟨j, hjv⟩ : ∃ j, j = k_jj v := ⟨_, rfl⟩
    refine q_eqs (st' := [.int (nI j)]) (by rw [hjv]) ?_
    rcases (by omega : j = 0 ∨ j = 1 ∨ j = 2 ∨ j = 3 ∨ j = 4 ∨ j = 5) with rfl | rfl | rfl | rfl | rfl | rfl
    · refine q_tableIn C dL_act_24 88 (by decide) (by decide) rfl (by decide) ?_
      refine q_aload_n C dL_act_88 89 1 rfl rfl ?_
      refine q_iload_n C dL_act_89 90 0 rfl rfl ?_
      refine q_callV (k := 0) (ci := 5) (n := 1) (rest := []) (Rr := [wH]) C rfl (k_isX_recv hX) rfl (c_X6_whyNot_b l hZ hI hN h0 aO aY aN hsn aT aK wX hX aB aL aS sc wO hO wA hA bx at0 wB hB ln wL hL (k_let w) (by omega)) gL_act_X6_whyNot rfl rfl rfl (by decide +kernel) B.1 ⟨Nat.le_of_ble_eq_true rfl, Nat.le_of_ble_eq_true rfl⟩ rfl rfl (Nat.le_of_ble_eq_true rfl) dL_act_90 ⟨(Nat.le_of_ble_eq_true rfl), (Nat.le_of_ble_eq_true rfl)⟩ [0, 1, 2, 3, 4] [5] (by decide : ([0, 1, 2, 3, 4] ++ ([5] : List Nat)).Perm (List.range 6)) rfl rfl 93 rfl (fun v0 R0 t0 ht0 hp0 => ?_)
      obtain ⟨rfl, rfl⟩ := hp0
      refine q_eqs (st' := [.int (nI (k_wn bx ln sc (k_let w)))]) rfl ?_
      refine q_eqR (Rs' := [wX, wO, wA, wB, wL, wH]) rfl ?_
      refine q_if_eq C dL_act_93 96 101 rfl (by decide) (q_eq0 (by omega)) (fun h93 => False.elim (by first | omega | simp_all)) (fun h93 => ?_)
      refine q_bipush (v := -9) C dL_act_96 98 rfl (by decide) ?_
      refine q_goto C dL_act_98 106 (by decide) ?_
      exact q_iret C B dL_act_106 rfl rfl (fun t0 ht0 => ⟨rfl, rfl⟩)
    · refine q_tableIn C dL_act_24 88 (by decide) (by decide) rfl (by decide) ?_
      refine q_aload_n C dL_act_88 89 1 rfl rfl ?_
      refine q_iload_n C dL_act_89 90 0 rfl rfl ?_
      refine q_callV (k := 0) (ci := 5) (n := 1) (rest := []) (Rr := [wH]) C rfl (k_isX_recv hX) rfl (c_X6_whyNot_b l hZ hI hN h0 aO aY aN hsn aT aK wX hX aB aL aS sc wO hO wA hA bx at0 wB hB ln wL hL (k_let w) (by omega)) gL_act_X6_whyNot rfl rfl rfl (by decide +kernel) B.1 ⟨Nat.le_of_ble_eq_true rfl, Nat.le_of_ble_eq_true rfl⟩ rfl rfl (Nat.le_of_ble_eq_true rfl) dL_act_90 ⟨(Nat.le_of_ble_eq_true rfl), (Nat.le_of_ble_eq_true rfl)⟩ [0, 1, 2, 3, 4] [5] (by decide : ([0, 1, 2, 3, 4] ++ ([5] : List Nat)).Perm (List.range 6)) rfl rfl 93 rfl (fun v0 R0 t0 ht0 hp0 => ?_)
      obtain ⟨rfl, rfl⟩ := hp0
      refine q_eqs (st' := [.int (nI (k_wn bx ln sc (k_let w)))]) rfl ?_
      refine q_eqR (Rs' := [wX, wO, wA, wB, wL, wH]) rfl ?_
      refine q_if_eq C dL_act_93 96 101 rfl (by decide) (q_eq0 (by omega)) (fun h93 => False.elim (by first | omega | simp_all)) (fun h93 => ?_)
      refine q_bipush (v := -9) C dL_act_96 98 rfl (by decide) ?_
      refine q_goto C dL_act_98 106 (by decide) ?_
      exact q_iret C B dL_act_106 rfl rfl (fun t0 ht0 => ⟨rfl, rfl⟩)
    · refine q_tableIn C dL_act_24 88 (by decide) (by decide) rfl (by decide) ?_
      refine q_aload_n C dL_act_88 89 1 rfl rfl ?_
      refine q_iload_n C dL_act_89 90 0 rfl rfl ?_
      refine q_callV (k := 0) (ci := 5) (n := 1) (rest := []) (Rr := [wH]) C rfl (k_isX_recv hX) rfl (c_X6_whyNot_b l hZ hI hN h0 aO aY aN hsn aT aK wX hX aB aL aS sc wO hO wA hA bx at0 wB hB ln wL hL (k_let w) (by omega)) gL_act_X6_whyNot rfl rfl rfl (by decide +kernel) B.1 ⟨Nat.le_of_ble_eq_true rfl, Nat.le_of_ble_eq_true rfl⟩ rfl rfl (Nat.le_of_ble_eq_true rfl) dL_act_90 ⟨(Nat.le_of_ble_eq_true rfl), (Nat.le_of_ble_eq_true rfl)⟩ [0, 1, 2, 3, 4] [5] (by decide : ([0, 1, 2, 3, 4] ++ ([5] : List Nat)).Perm (List.range 6)) rfl rfl 93 rfl (fun v0 R0 t0 ht0 hp0 => ?_)
      obtain ⟨rfl, rfl⟩ := hp0
      refine q_eqs (st' := [.int (nI (k_wn bx ln sc (k_let w)))]) rfl ?_
      refine q_eqR (Rs' := [wX, wO, wA, wB, wL, wH]) rfl ?_
      refine q_if_eq C dL_act_93 96 101 rfl (by decide) (q_eq0 (by omega)) (fun h93 => False.elim (by first | omega | simp_all)) (fun h93 => ?_)
      refine q_bipush (v := -9) C dL_act_96 98 rfl (by decide) ?_
      refine q_goto C dL_act_98 106 (by decide) ?_
      exact q_iret C B dL_act_106 rfl rfl (fun t0 ht0 => ⟨rfl, rfl⟩)
    · refine q_tableIn C dL_act_24 88 (by decide) (by decide) rfl (by decide) ?_
      refine q_aload_n C dL_act_88 89 1 rfl rfl ?_
      refine q_iload_n C dL_act_89 90 0 rfl rfl ?_
      refine q_callV (k := 0) (ci := 5) (n := 1) (rest := []) (Rr := [wH]) C rfl (k_isX_recv hX) rfl (c_X6_whyNot_b l hZ hI hN h0 aO aY aN hsn aT aK wX hX aB aL aS sc wO hO wA hA bx at0 wB hB ln wL hL (k_let w) (by omega)) gL_act_X6_whyNot rfl rfl rfl (by decide +kernel) B.1 ⟨Nat.le_of_ble_eq_true rfl, Nat.le_of_ble_eq_true rfl⟩ rfl rfl (Nat.le_of_ble_eq_true rfl) dL_act_90 ⟨(Nat.le_of_ble_eq_true rfl), (Nat.le_of_ble_eq_true rfl)⟩ [0, 1, 2, 3, 4] [5] (by decide : ([0, 1, 2, 3, 4] ++ ([5] : List Nat)).Perm (List.range 6)) rfl rfl 93 rfl (fun v0 R0 t0 ht0 hp0 => ?_)
      obtain ⟨rfl, rfl⟩ := hp0
      refine q_eqs (st' := [.int (nI (k_wn bx ln sc (k_let w)))]) rfl ?_
      refine q_eqR (Rs' := [wX, wO, wA, wB, wL, wH]) rfl ?_
      refine q_if_eq C dL_act_93 96 101 rfl (by decide) (q_eq0 (by omega)) (fun h93 => False.elim (by first | omega | simp_all)) (fun h93 => ?_)
      refine q_bipush (v := -9) C dL_act_96 98 rfl (by decide) ?_
      refine q_goto C dL_act_98 106 (by decide) ?_
      exact q_iret C B dL_act_106 rfl rfl (fun t0 ht0 => ⟨rfl, rfl⟩)
    · refine q_tableIn C dL_act_24 88 (by decide) (by decide) rfl (by decide) ?_
      refine q_aload_n C dL_act_88 89 1 rfl rfl ?_
      refine q_iload_n C dL_act_89 90 0 rfl rfl ?_
      refine q_callV (k := 0) (ci := 5) (n := 1) (rest := []) (Rr := [wH]) C rfl (k_isX_recv hX) rfl (c_X6_whyNot_b l hZ hI hN h0 aO aY aN hsn aT aK wX hX aB aL aS sc wO hO wA hA bx at0 wB hB ln wL hL (k_let w) (by omega)) gL_act_X6_whyNot rfl rfl rfl (by decide +kernel) B.1 ⟨Nat.le_of_ble_eq_true rfl, Nat.le_of_ble_eq_true rfl⟩ rfl rfl (Nat.le_of_ble_eq_true rfl) dL_act_90 ⟨(Nat.le_of_ble_eq_true rfl), (Nat.le_of_ble_eq_true rfl)⟩ [0, 1, 2, 3, 4] [5] (by decide : ([0, 1, 2, 3, 4] ++ ([5] : List Nat)).Perm (List.range 6)) rfl rfl 93 rfl (fun v0 R0 t0 ht0 hp0 => ?_)
      obtain ⟨rfl, rfl⟩ := hp0
      refine q_eqs (st' := [.int (nI (k_wn bx ln sc (k_let w)))]) rfl ?_
      refine q_eqR (Rs' := [wX, wO, wA, wB, wL, wH]) rfl ?_
      refine q_if_eq C dL_act_93 96 101 rfl (by decide) (q_eq0 (by omega)) (fun h93 => False.elim (by first | omega | simp_all)) (fun h93 => ?_)
      refine q_bipush (v := -9) C dL_act_96 98 rfl (by decide) ?_
      refine q_goto C dL_act_98 106 (by decide) ?_
      exact q_iret C B dL_act_106 rfl rfl (fun t0 ht0 => ⟨rfl, rfl⟩)
    · refine q_tableIn C dL_act_24 88 (by decide) (by decide) rfl (by decide) ?_
      refine q_aload_n C dL_act_88 89 1 rfl rfl ?_
      refine q_iload_n C dL_act_89 90 0 rfl rfl ?_
      refine q_callV (k := 0) (ci := 5) (n := 1) (rest := []) (Rr := [wH]) C rfl (k_isX_recv hX) rfl (c_X6_whyNot_b l hZ hI hN h0 aO aY aN hsn aT aK wX hX aB aL aS sc wO hO wA hA bx at0 wB hB ln wL hL (k_let w) (by omega)) gL_act_X6_whyNot rfl rfl rfl (by decide +kernel) B.1 ⟨Nat.le_of_ble_eq_true rfl, Nat.le_of_ble_eq_true rfl⟩ rfl rfl (Nat.le_of_ble_eq_true rfl) dL_act_90 ⟨(Nat.le_of_ble_eq_true rfl), (Nat.le_of_ble_eq_true rfl)⟩ [0, 1, 2, 3, 4] [5] (by decide : ([0, 1, 2, 3, 4] ++ ([5] : List Nat)).Perm (List.range 6)) rfl rfl 93 rfl (fun v0 R0 t0 ht0 hp0 => ?_)
      obtain ⟨rfl, rfl⟩ := hp0
      refine q_eqs (st' := [.int (nI (k_wn bx ln sc (k_let w)))]) rfl ?_
      refine q_eqR (Rs' := [wX, wO, wA, wB, wL, wH]) rfl ?_
      refine q_if_eq C dL_act_93 96 101 rfl (by decide) (q_eq0 (by omega)) (fun h93 => False.elim (by first | omega | simp_all)) (fun h93 => ?_)
      refine q_bipush (v := -9) C dL_act_96 98 rfl (by decide) ?_
      refine q_goto C dL_act_98 106 (by decide) ?_
      exact q_iret C B dL_act_106 rfl rfl (fun t0 ht0 => ⟨rfl, rfl⟩)
  · refine q_iconst (v := nI 4) C dL_act_10 11 rfl (by decide) ?_
    refine q_goto C dL_act_11 16 (by decide) ?_
    refine q_callS (n := 2) (rest := []) (Rr := [wX, wO, wA, wB, wL, wH]) C (c_L_low l hZ hI w 4 (by omega) (by omega)) gL_act_L_low rfl rfl rfl (by decide +kernel) B.1 ⟨Nat.le_of_ble_eq_true rfl, Nat.le_of_ble_eq_true rfl⟩ rfl rfl (Nat.le_of_ble_eq_true rfl) dL_act_16 ⟨(Nat.le_of_ble_eq_true rfl), (Nat.le_of_ble_eq_true rfl)⟩ [] [0, 1, 2, 3, 4, 5] (by decide : ([] ++ ([0, 1, 2, 3, 4, 5] : List Nat)).Perm (List.range 6)) rfl rfl 19 rfl (fun v0 R0 t0 ht0 hp0 => ?_)
    obtain ⟨rfl, rfl⟩ := hp0
    refine q_eqs (st' := [.int (nI (k_low w 4))]) rfl ?_
    refine q_eqR (Rs' := [wX, wO, wA, wB, wL, wH]) rfl ?_
    have hlw16 : k_low w 4 < 4 := k_low_lt (by omega)
    refine q_eqs (st' := [.int (nI (k_let w))]) (by rw [show k_let w = k_low w 4 from by unfold k_let; rw [if_pos (by omega)]]) ?_
    refine q_istore_n C dL_act_19 20 rfl [(3, .int (nI (k_let w))), (0, .ref h0), (1, .int v), (2, .int w)] (by decide) rfl ?_
    refine q_iload_n C dL_act_20 21 2 rfl rfl ?_
    refine q_bipush (v := nI 15) C dL_act_21 23 rfl (by decide) ?_
    refine q_iand (v := nI ((k_jj v))) C dL_act_23 24 rfl (pk_and v 4 (by decide)) ?_
    obtain ⟨j, hjv⟩ : ∃ j, j = k_jj v := ⟨_, rfl⟩
    refine q_eqs (st' := [.int (nI j)]) (by rw [hjv]) ?_
    rcases (by omega : j = 0 ∨ j = 1 ∨ j = 2 ∨ j = 3 ∨ j = 4 ∨ j = 5) with rfl | rfl | rfl | rfl | rfl | rfl
    · refine q_tableIn C dL_act_24 88 (by decide) (by decide) rfl (by decide) ?_
      refine q_aload_n C dL_act_88 89 1 rfl rfl ?_
      refine q_iload_n C dL_act_89 90 0 rfl rfl ?_
      refine q_callV (k := 0) (ci := 5) (n := 1) (rest := []) (Rr := [wH]) C rfl (k_isX_recv hX) rfl (c_X6_whyNot_b l hZ hI hN h0 aO aY aN hsn aT aK wX hX aB aL aS sc wO hO wA hA bx at0 wB hB ln wL hL (k_let w) (by omega)) gL_act_X6_whyNot rfl rfl rfl (by decide +kernel) B.1 ⟨Nat.le_of_ble_eq_true rfl, Nat.le_of_ble_eq_true rfl⟩ rfl rfl (Nat.le_of_ble_eq_true rfl) dL_act_90 ⟨(Nat.le_of_ble_eq_true rfl), (Nat.le_of_ble_eq_true rfl)⟩ [0, 1, 2, 3, 4] [5] (by decide : ([0, 1, 2, 3, 4] ++ ([5] : List Nat)).Perm (List.range 6)) rfl rfl 93 rfl (fun v0 R0 t0 ht0 hp0 => ?_)
      obtain ⟨rfl, rfl⟩ := hp0
      refine q_eqs (st' := [.int (nI (k_wn bx ln sc (k_let w)))]) rfl ?_
      refine q_eqR (Rs' := [wX, wO, wA, wB, wL, wH]) rfl ?_
      refine q_if_eq C dL_act_93 96 101 rfl (by decide) (q_eq0 (by omega)) (fun h93 => False.elim (by first | omega | simp_all)) (fun h93 => ?_)
      refine q_bipush (v := -9) C dL_act_96 98 rfl (by decide) ?_
      refine q_goto C dL_act_98 106 (by decide) ?_
      exact q_iret C B dL_act_106 rfl rfl (fun t0 ht0 => ⟨rfl, rfl⟩)
    · refine q_tableIn C dL_act_24 88 (by decide) (by decide) rfl (by decide) ?_
      refine q_aload_n C dL_act_88 89 1 rfl rfl ?_
      refine q_iload_n C dL_act_89 90 0 rfl rfl ?_
      refine q_callV (k := 0) (ci := 5) (n := 1) (rest := []) (Rr := [wH]) C rfl (k_isX_recv hX) rfl (c_X6_whyNot_b l hZ hI hN h0 aO aY aN hsn aT aK wX hX aB aL aS sc wO hO wA hA bx at0 wB hB ln wL hL (k_let w) (by omega)) gL_act_X6_whyNot rfl rfl rfl (by decide +kernel) B.1 ⟨Nat.le_of_ble_eq_true rfl, Nat.le_of_ble_eq_true rfl⟩ rfl rfl (Nat.le_of_ble_eq_true rfl) dL_act_90 ⟨(Nat.le_of_ble_eq_true rfl), (Nat.le_of_ble_eq_true rfl)⟩ [0, 1, 2, 3, 4] [5] (by decide : ([0, 1, 2, 3, 4] ++ ([5] : List Nat)).Perm (List.range 6)) rfl rfl 93 rfl (fun v0 R0 t0 ht0 hp0 => ?_)
      obtain ⟨rfl, rfl⟩ := hp0
      refine q_eqs (st' := [.int (nI (k_wn bx ln sc (k_let w)))]) rfl ?_
      refine q_eqR (Rs' := [wX, wO, wA, wB, wL, wH]) rfl ?_
      refine q_if_eq C dL_act_93 96 101 rfl (by decide) (q_eq0 (by omega)) (fun h93 => False.elim (by first | omega | simp_all)) (fun h93 => ?_)
      refine q_bipush (v := -9) C dL_act_96 98 rfl (by decide) ?_
      refine q_goto C dL_act_98 106 (by decide) ?_
      exact q_iret C B dL_act_106 rfl rfl (fun t0 ht0 => ⟨rfl, rfl⟩)
    · refine q_tableIn C dL_act_24 88 (by decide) (by decide) rfl (by decide) ?_
      refine q_aload_n C dL_act_88 89 1 rfl rfl ?_
      refine q_iload_n C dL_act_89 90 0 rfl rfl ?_
      refine q_callV (k := 0) (ci := 5) (n := 1) (rest := []) (Rr := [wH]) C rfl (k_isX_recv hX) rfl (c_X6_whyNot_b l hZ hI hN h0 aO aY aN hsn aT aK wX hX aB aL aS sc wO hO wA hA bx at0 wB hB ln wL hL (k_let w) (by omega)) gL_act_X6_whyNot rfl rfl rfl (by decide +kernel) B.1 ⟨Nat.le_of_ble_eq_true rfl, Nat.le_of_ble_eq_true rfl⟩ rfl rfl (Nat.le_of_ble_eq_true rfl) dL_act_90 ⟨(Nat.le_of_ble_eq_true rfl), (Nat.le_of_ble_eq_true rfl)⟩ [0, 1, 2, 3, 4] [5] (by decide : ([0, 1, 2, 3, 4] ++ ([5] : List Nat)).Perm (List.range 6)) rfl rfl 93 rfl (fun v0 R0 t0 ht0 hp0 => ?_)
      obtain ⟨rfl, rfl⟩ := hp0
      refine q_eqs (st' := [.int (nI (k_wn bx ln sc (k_let w)))]) rfl ?_
      refine q_eqR (Rs' := [wX, wO, wA, wB, wL, wH]) rfl ?_
      refine q_if_eq C dL_act_93 96 101 rfl (by decide) (q_eq0 (by omega)) (fun h93 => False.elim (by first | omega | simp_all)) (fun h93 => ?_)
      refine q_bipush (v := -9) C dL_act_96 98 rfl (by decide) ?_
      refine q_goto C dL_act_98 106 (by decide) ?_
      exact q_iret C B dL_act_106 rfl rfl (fun t0 ht0 => ⟨rfl, rfl⟩)
    · refine q_tableIn C dL_act_24 88 (by decide) (by decide) rfl (by decide) ?_
      refine q_aload_n C dL_act_88 89 1 rfl rfl ?_
      refine q_iload_n C dL_act_89 90 0 rfl rfl ?_
      refine q_callV (k := 0) (ci := 5) (n := 1) (rest := []) (Rr := [wH]) C rfl (k_isX_recv hX) rfl (c_X6_whyNot_b l hZ hI hN h0 aO aY aN hsn aT aK wX hX aB aL aS sc wO hO wA hA bx at0 wB hB ln wL hL (k_let w) (by omega)) gL_act_X6_whyNot rfl rfl rfl (by decide +kernel) B.1 ⟨Nat.le_of_ble_eq_true rfl, Nat.le_of_ble_eq_true rfl⟩ rfl rfl (Nat.le_of_ble_eq_true rfl) dL_act_90 ⟨(Nat.le_of_ble_eq_true rfl), (Nat.le_of_ble_eq_true rfl)⟩ [0, 1, 2, 3, 4] [5] (by decide : ([0, 1, 2, 3, 4] ++ ([5] : List Nat)).Perm (List.range 6)) rfl rfl 93 rfl (fun v0 R0 t0 ht0 hp0 => ?_)
      obtain ⟨rfl, rfl⟩ := hp0
      refine q_eqs (st' := [.int (nI (k_wn bx ln sc (k_let w)))]) rfl ?_
      refine q_eqR (Rs' := [wX, wO, wA, wB, wL, wH]) rfl ?_
      refine q_if_eq C dL_act_93 96 101 rfl (by decide) (q_eq0 (by omega)) (fun h93 => False.elim (by first | omega | simp_all)) (fun h93 => ?_)
      refine q_bipush (v := -9) C dL_act_96 98 rfl (by decide) ?_
      refine q_goto C dL_act_98 106 (by decide) ?_
      exact q_iret C B dL_act_106 rfl rfl (fun t0 ht0 => ⟨rfl, rfl⟩)
    · refine q_tableIn C dL_act_24 88 (by decide) (by decide) rfl (by decide) ?_
      refine q_aload_n C dL_act_88 89 1 rfl rfl ?_
      refine q_iload_n C dL_act_89 90 0 rfl rfl ?_
      refine q_callV (k := 0) (ci := 5) (n := 1) (rest := []) (Rr := [wH]) C rfl (k_isX_recv hX) rfl (c_X6_whyNot_b l hZ hI hN h0 aO aY aN hsn aT aK wX hX aB aL aS sc wO hO wA hA bx at0 wB hB ln wL hL (k_let w) (by omega)) gL_act_X6_whyNot rfl rfl rfl (by decide +kernel) B.1 ⟨Nat.le_of_ble_eq_true rfl, Nat.le_of_ble_eq_true rfl⟩ rfl rfl (Nat.le_of_ble_eq_true rfl) dL_act_90 ⟨(Nat.le_of_ble_eq_true rfl), (Nat.le_of_ble_eq_true rfl)⟩ [0, 1, 2, 3, 4] [5] (by decide : ([0, 1, 2, 3, 4] ++ ([5] : List Nat)).Perm (List.range 6)) rfl rfl 93 rfl (fun v0 R0 t0 ht0 hp0 => ?_)
      obtain ⟨rfl, rfl⟩ := hp0
      refine q_eqs (st' := [.int (nI (k_wn bx ln sc (k_let w)))]) rfl ?_
      refine q_eqR (Rs' := [wX, wO, wA, wB, wL, wH]) rfl ?_
      refine q_if_eq C dL_act_93 96 101 rfl (by decide) (q_eq0 (by omega)) (fun h93 => False.elim (by first | omega | simp_all)) (fun h93 => ?_)
      refine q_bipush (v := -9) C dL_act_96 98 rfl (by decide) ?_
      refine q_goto C dL_act_98 106 (by decide) ?_
      exact q_iret C B dL_act_106 rfl rfl (fun t0 ht0 => ⟨rfl, rfl⟩)
    · refine q_tableIn C dL_act_24 88 (by decide) (by decide) rfl (by decide) ?_
      refine q_aload_n C dL_act_88 89 1 rfl rfl ?_
      refine q_iload_n C dL_act_89 90 0 rfl rfl ?_
      refine q_callV (k := 0) (ci := 5) (n := 1) (rest := []) (Rr := [wH]) C rfl (k_isX_recv hX) rfl (c_X6_whyNot_b l hZ hI hN h0 aO aY aN hsn aT aK wX hX aB aL aS sc wO hO wA hA bx at0 wB hB ln wL hL (k_let w) (by omega)) gL_act_X6_whyNot rfl rfl rfl (by decide +kernel) B.1 ⟨Nat.le_of_ble_eq_true rfl, Nat.le_of_ble_eq_true rfl⟩ rfl rfl (Nat.le_of_ble_eq_true rfl) dL_act_90 ⟨(Nat.le_of_ble_eq_true rfl), (Nat.le_of_ble_eq_true rfl)⟩ [0, 1, 2, 3, 4] [5] (by decide : ([0, 1, 2, 3, 4] ++ ([5] : List Nat)).Perm (List.range 6)) rfl rfl 93 rfl (fun v0 R0 t0 ht0 hp0 => ?_)
      obtain ⟨rfl, rfl⟩ := hp0
      refine q_eqs (st' := [.int (nI (k_wn bx ln sc (k_let w)))]) rfl ?_
      refine q_eqR (Rs' := [wX, wO, wA, wB, wL, wH]) rfl ?_
      refine q_if_eq C dL_act_93 96 101 rfl (by decide) (q_eq0 (by omega)) (fun h93 => False.elim (by first | omega | simp_all)) (fun h93 => ?_)
      refine q_bipush (v := -9) C dL_act_96 98 rfl (by decide) ?_
      refine q_goto C dL_act_98 106 (by decide) ?_
      exact q_iret C B dL_act_106 rfl rfl (fun t0 ht0 => ⟨rfl, rfl⟩)

set_option maxHeartbeats 400000 in
set_option maxRecDepth 100000 in
theorem c_L_act_s1 (l : Launch) {D : va_G} {tys : List (ClassId × FieldType)} {Z : (Nat → Prop) → State → Heap → Prop} (hZ : q_St Z) {cI : ClassId} (hI : tys[0]? = some (cI, .int)) (hN : q_Ns Z) {cG : ClassId} (hG : tys[1]? = some (cG, .object "SortCases$State")) {tL tH : Nat} (hVs : q_Vs Z tL tH) (h0 : Nat) (aO : Nat) (aY : Nat) (aN : Nat) (hsn : Int32) (aT : Nat) (aK : Nat) (wX : va_W) (hX : k_isX cI h0 aO aY aN hsn aT aK wX) (aB : Nat) (aL : Nat) (aS : Nat) (sc : Nat → Int32) (wO : va_W) (hO : k_isO cI aO aB aL aS sc wO) (wA : va_W) (hA : k_isA cI aS sc wA) (bx : k_Bx) (at0 : Nat) (wB : va_W) (hB : k_isB cI aB bx at0 wB) (ln : List (Nat × Nat)) (wL : va_W) (hL : k_isL cI aL ln wL) (sv : List k_S) (wH : va_W) (hH : k_isH cG cI aY sv wH) (v : Int32) (w : Int32) (hIv : k_Iv (bx, at0, ln, sc)) (h2 : sc 2 = nI 0 ∨ sc 2 = nI 1) (hj : k_jj v < 6) (hw : k_wn bx ln sc (k_let w) = 0) : q_Ct l D tys Z yL_act wsL_act ({ frames := 9, cells := 0, slots := 0, locals := 282 } : Room) 0 0 [.ref h0, .int v, .int w] [wX, wO, wA, wB, wL, wH] (fun v0 R0 _ => v0 = some (.int (nI (k_x bx (k_let w)))) ∧ ∃ wO', k_isO cI aO aB aL aS ((k_set (bx, at0, ln, sc) (k_let w)).2.2.2) wO' ∧ ∃ wA', k_isA cI aS ((k_set (bx, at0, ln, sc) (k_let w)).2.2.2) wA' ∧ ∃ wB', k_isB cI aB ((k_set (bx, at0, ln, sc) (k_let w)).1) ((k_set (bx, at0, ln, sc) (k_let w)).2.1) wB' ∧ ∃ wL', k_isL cI aL (ln ++ [(k_x bx (k_let w), (k_let w))]) wL' ∧ ∃ wH', k_isH cG cI aY ((k_sav sv (bx, at0, ln, sc))) wH' ∧ R0 = [wX, wO', wA', wB', wL', wH']) := by
  have hcI := hI
  have hcG := hG
  refine q_ct (cc := cL_act) (maxL := 6) (ret := (some .int)) (own := RL) (by decide) rfl hZ (Nat.le_of_ble_eq_true rfl) rfl ?_
  intro p9 e9 R s9 m9 args below meth c9 A Q C B
  have hts := C.2.2.2.2.1
  refine q_eqL (L' := [(0, .ref h0), (1, .int v), (2, .int w)]) rfl ?_
  have hll := hL.1.1
  have hok := hB.2.1
  have hcs := k_Cv_cs (S := (bx, at0, ln, sc)) hIv.2
  have hws := k_Cv_ws (S := (bx, at0, ln, sc)) hok hIv.2
  have hbw := k_b20_lt w
  have hlt := k_let_lt w
  have hwnl := k_wn_le bx ln sc (k_let w)
  have hj16 := k_jj_lt v
  refine q_iload_n C dL_act_0 1 2 rfl rfl ?_
  refine q_iload_n C dL_act_1 2 2 rfl rfl ?_
  refine q_bipush (v := nI 20) C dL_act_2 4 rfl (by decide) ?_
  refine q_ishr (v := w >>> 20) C dL_act_4 5 rfl (by rw [show nI 20 &&& 31 = (20 : Int32) by decide]) ?_
  refine q_iconst (v := nI 1) C dL_act_5 6 rfl (by decide) ?_
  refine q_iand (v := nI ((k_b20 w))) C dL_act_6 7 rfl (pk_and (w >>> 20) 1 (by decide)) ?_
  refine q_if_ne C dL_act_7 10 14 rfl (by decide) (q_eq0 (by omega)) (fun h7 => ?_) (fun h7 => ?_)
  · refine q_bipush (v := nI 12) C dL_act_14 16 rfl (by decide) ?_
    refine q_callS (n := 2) (rest := []) (Rr := [wX, wO, wA, wB, wL, wH]) C (c_L_low l hZ hI w 12 (by omega) (by omega)) gL_act_L_low rfl rfl rfl (by decide +kernel) B.1 ⟨Nat.le_of_ble_eq_true rfl, Nat.le_of_ble_eq_true rfl⟩ rfl rfl (Nat.le_of_ble_eq_true rfl) dL_act_16 ⟨(Nat.le_of_ble_eq_true rfl), (Nat.le_of_ble_eq_true rfl)⟩ [] [0, 1, 2, 3, 4, 5] (by decide : ([] ++ ([0, 1, 2, 3, 4, 5] : List Nat)).Perm (List.range 6)) rfl rfl 19 rfl (fun v0 R0 t0 ht0 hp0 => ?_)
    obtain ⟨rfl, rfl⟩ := hp0
    refine q_eqs (st' := [.int (nI (k_low w 12))]) rfl ?_
    refine q_eqR (Rs' := [wX, wO, wA, wB, wL, wH]) rfl ?_
    have hlw16 : k_low w 12 < 12 := k_low_lt (by omega)
    refine q_eqs (st' := [.int (nI (k_let w))]) (by rw [show k_let w = k_low w 12 from by unfold k_let; rw [if_neg (by omega)]]) ?_
    refine q_istore_n C dL_act_19 20 rfl [(3, .int (nI (k_let w))), (0, .ref h0), (1, .int v), (2, .int w)] (by decide) rfl ?_
    refine q_iload_n C dL_act_20 21 2 rfl rfl ?_
    refine q_bipush (v := nI 15) C dL_act_21 23 rfl (by decide) ?_
    refine q_iand (v := nI ((k_jj v))) C dL_act_23 24 rfl (pk_and v 4 (by decide)) ?_
    obtain ⟨j, hjv⟩ : ∃ j, j = k_jj v := ⟨_, rfl⟩
    refine q_eqs (st' := [.int (nI j)]) (by rw [hjv]) ?_
    rcases (by omega : j = 0 ∨ j = 1 ∨ j = 2 ∨ j = 3 ∨ j = 4 ∨ j = 5) with rfl | rfl | rfl | rfl | rfl | rfl
    · refine q_tableIn C dL_act_24 88 (by decide) (by decide) rfl (by decide) ?_
      refine q_aload_n C dL_act_88 89 1 rfl rfl ?_
      refine q_iload_n C dL_act_89 90 0 rfl rfl ?_
      refine q_callV (k := 0) (ci := 5) (n := 1) (rest := []) (Rr := [wH]) C rfl (k_isX_recv hX) rfl (c_X6_whyNot_b l hZ hI hN h0 aO aY aN hsn aT aK wX hX aB aL aS sc wO hO wA hA bx at0 wB hB ln wL hL (k_let w) (by omega)) gL_act_X6_whyNot rfl rfl rfl (by decide +kernel) B.1 ⟨Nat.le_of_ble_eq_true rfl, Nat.le_of_ble_eq_true rfl⟩ rfl rfl (Nat.le_of_ble_eq_true rfl) dL_act_90 ⟨(Nat.le_of_ble_eq_true rfl), (Nat.le_of_ble_eq_true rfl)⟩ [0, 1, 2, 3, 4] [5] (by decide : ([0, 1, 2, 3, 4] ++ ([5] : List Nat)).Perm (List.range 6)) rfl rfl 93 rfl (fun v0 R0 t0 ht0 hp0 => ?_)
      obtain ⟨rfl, rfl⟩ := hp0
      refine q_eqs (st' := [.int (nI (k_wn bx ln sc (k_let w)))]) rfl ?_
      refine q_eqR (Rs' := [wX, wO, wA, wB, wL, wH]) rfl ?_
      refine q_if_eq C dL_act_93 96 101 rfl (by decide) (q_eq0 (by omega)) (fun h93 => ?_) (fun h93 => False.elim (by first | omega | simp_all))
      refine q_aload_n C dL_act_101 102 1 rfl rfl ?_
      refine q_iload_n C dL_act_102 103 0 rfl rfl ?_
      refine q_callV (k := 0) (ci := 5) (n := 1) (rest := []) (Rr := []) C rfl (k_isX_recv hX) rfl (c_X6_set_c l hZ hI hN hG h0 aO aY aN hsn aT aK wX hX aB aL aS sc wO hO wA hA bx at0 wB hB ln wL hL sv wH hH (k_let w) (by omega) hw hIv.1) gL_act_X6_set rfl rfl rfl (by decide +kernel) B.1 ⟨Nat.le_of_ble_eq_true rfl, Nat.le_of_ble_eq_true rfl⟩ rfl rfl (Nat.le_of_ble_eq_true rfl) dL_act_103 ⟨(Nat.le_of_ble_eq_true rfl), (Nat.le_of_ble_eq_true rfl)⟩ [0, 1, 2, 3, 4, 5] [] (by decide : ([0, 1, 2, 3, 4, 5] ++ ([] : List Nat)).Perm (List.range 6)) rfl rfl 106 rfl (fun v0 R0 t0 ht0 hp0 => ?_)
      obtain ⟨rfl, wO_103, hwO_103, wA_103, hwA_103, wB_103, hwB_103, wL_103, hwL_103, wH_103, hwH_103, rfl⟩ := hp0
      refine q_eqs (st' := [.int (nI (k_x bx (k_let w)))]) rfl ?_
      refine q_eqR (Rs' := [wX, wO_103, wA_103, wB_103, wL_103, wH_103]) rfl ?_
      exact q_iret C B dL_act_106 rfl rfl (fun t0 ht0 => ⟨rfl, _, hwO_103, _, hwA_103, _, hwB_103, _, hwL_103, _, hwH_103, by first | rfl | simp⟩)
    · refine q_tableIn C dL_act_24 88 (by decide) (by decide) rfl (by decide) ?_
      refine q_aload_n C dL_act_88 89 1 rfl rfl ?_
      refine q_iload_n C dL_act_89 90 0 rfl rfl ?_
      refine q_callV (k := 0) (ci := 5) (n := 1) (rest := []) (Rr := [wH]) C rfl (k_isX_recv hX) rfl (c_X6_whyNot_b l hZ hI hN h0 aO aY aN hsn aT aK wX hX aB aL aS sc wO hO wA hA bx at0 wB hB ln wL hL (k_let w) (by omega)) gL_act_X6_whyNot rfl rfl rfl (by decide +kernel) B.1 ⟨Nat.le_of_ble_eq_true rfl, Nat.le_of_ble_eq_true rfl⟩ rfl rfl (Nat.le_of_ble_eq_true rfl) dL_act_90 ⟨(Nat.le_of_ble_eq_true rfl), (Nat.le_of_ble_eq_true rfl)⟩ [0, 1, 2, 3, 4] [5] (by decide : ([0, 1, 2, 3, 4] ++ ([5] : List Nat)).Perm (List.range 6)) rfl rfl 93 rfl (fun v0 R0 t0 ht0 hp0 => ?_)
      obtain ⟨rfl, rfl⟩ := hp0
      refine q_eqs (st' := [.int (nI (k_wn bx ln sc (k_let w)))]) rfl ?_
      refine q_eqR (Rs' := [wX, wO, wA, wB, wL, wH]) rfl ?_
      refine q_if_eq C dL_act_93 96 101 rfl (by decide) (q_eq0 (by omega)) (fun h93 => ?_) (fun h93 => False.elim (by first | omega | simp_all))
      refine q_aload_n C dL_act_101 102 1 rfl rfl ?_
      refine q_iload_n C dL_act_102 103 0 rfl rfl ?_
      refine q_callV (k := 0) (ci := 5) (n := 1) (rest := []) (Rr := []) C rfl (k_isX_recv hX) rfl (c_X6_set_c l hZ hI hN hG h0 aO aY aN hsn aT aK wX hX aB aL aS sc wO hO wA hA bx at0 wB hB ln wL hL sv wH hH (k_let w) (by omega) hw hIv.1) gL_act_X6_set rfl rfl rfl (by decide +kernel) B.1 ⟨Nat.le_of_ble_eq_true rfl, Nat.le_of_ble_eq_true rfl⟩ rfl rfl (Nat.le_of_ble_eq_true rfl) dL_act_103 ⟨(Nat.le_of_ble_eq_true rfl), (Nat.le_of_ble_eq_true rfl)⟩ [0, 1, 2, 3, 4, 5] [] (by decide : ([0, 1, 2, 3, 4, 5] ++ ([] : List Nat)).Perm (List.range 6)) rfl rfl 106 rfl (fun v0 R0 t0 ht0 hp0 => ?_)
      obtain ⟨rfl, wO_103, hwO_103, wA_103, hwA_103, wB_103, hwB_103, wL_103, hwL_103, wH_103, hwH_103, rfl⟩ := hp0
      refine q_eqs (st' := [.int (nI (k_x bx (k_let w)))]) rfl ?_
      refine q_eqR (Rs' := [wX, wO_103, wA_103, wB_103, wL_103, wH_103]) rfl ?_
      exact q_iret C B dL_act_106 rfl rfl (fun t0 ht0 => ⟨rfl, _, hwO_103, _, hwA_103, _, hwB_103, _, hwL_103, _, hwH_103, by first | rfl | simp⟩)
    · refine q_tableIn C dL_act_24 88 (by decide) (by decide) rfl (by decide) ?_
      refine q_aload_n C dL_act_88 89 1 rfl rfl ?_
      refine q_iload_n C dL_act_89 90 0 rfl rfl ?_
      refine q_callV (k := 0) (ci := 5) (n := 1) (rest := []) (Rr := [wH]) C rfl (k_isX_recv hX) rfl (c_X6_whyNot_b l hZ hI hN h0 aO aY aN hsn aT aK wX hX aB aL aS sc wO hO wA hA bx at0 wB hB ln wL hL (k_let w) (by omega)) gL_act_X6_whyNot rfl rfl rfl (by decide +kernel) B.1 ⟨Nat.le_of_ble_eq_true rfl, Nat.le_of_ble_eq_true rfl⟩ rfl rfl (Nat.le_of_ble_eq_true rfl) dL_act_90 ⟨(Nat.le_of_ble_eq_true rfl), (Nat.le_of_ble_eq_true rfl)⟩ [0, 1, 2, 3, 4] [5] (by decide : ([0, 1, 2, 3, 4] ++ ([5] : List Nat)).Perm (List.range 6)) rfl rfl 93 rfl (fun v0 R0 t0 ht0 hp0 => ?_)
      obtain ⟨rfl, rfl⟩ := hp0
      refine q_eqs (st' := [.int (nI (k_wn bx ln sc (k_let w)))]) rfl ?_
      refine q_eqR (Rs' := [wX, wO, wA, wB, wL, wH]) rfl ?_
      refine q_if_eq C dL_act_93 96 101 rfl (by decide) (q_eq0 (by omega)) (fun h93 => ?_) (fun h93 => False.elim (by first | omega | simp_all))
      refine q_aload_n C dL_act_101 102 1 rfl rfl ?_
      refine q_iload_n C dL_act_102 103 0 rfl rfl ?_
      refine q_callV (k := 0) (ci := 5) (n := 1) (rest := []) (Rr := []) C rfl (k_isX_recv hX) rfl (c_X6_set_c l hZ hI hN hG h0 aO aY aN hsn aT aK wX hX aB aL aS sc wO hO wA hA bx at0 wB hB ln wL hL sv wH hH (k_let w) (by omega) hw hIv.1) gL_act_X6_set rfl rfl rfl (by decide +kernel) B.1 ⟨Nat.le_of_ble_eq_true rfl, Nat.le_of_ble_eq_true rfl⟩ rfl rfl (Nat.le_of_ble_eq_true rfl) dL_act_103 ⟨(Nat.le_of_ble_eq_true rfl), (Nat.le_of_ble_eq_true rfl)⟩ [0, 1, 2, 3, 4, 5] [] (by decide : ([0, 1, 2, 3, 4, 5] ++ ([] : List Nat)).Perm (List.range 6)) rfl rfl 106 rfl (fun v0 R0 t0 ht0 hp0 => ?_)
      obtain ⟨rfl, wO_103, hwO_103, wA_103, hwA_103, wB_103, hwB_103, wL_103, hwL_103, wH_103, hwH_103, rfl⟩ := hp0
      refine q_eqs (st' := [.int (nI (k_x bx (k_let w)))]) rfl ?_
      refine q_eqR (Rs' := [wX, wO_103, wA_103, wB_103, wL_103, wH_103]) rfl ?_
      exact q_iret C B dL_act_106 rfl rfl (fun t0 ht0 => ⟨rfl, _, hwO_103, _, hwA_103, _, hwB_103, _, hwL_103, _, hwH_103, by first | rfl | simp⟩)
    · refine q_tableIn C dL_act_24 88 (by decide) (by decide) rfl (by decide) ?_
      refine q_aload_n C dL_act_88 89 1 rfl rfl ?_
      refine q_iload_n C dL_act_89 90 0 rfl rfl ?_
      refine q_callV (k := 0) (ci := 5) (n := 1) (rest := []) (Rr := [wH]) C rfl (k_isX_recv hX) rfl (c_X6_whyNot_b l hZ hI hN h0 aO aY aN hsn aT aK wX hX aB aL aS sc wO hO wA hA bx at0 wB hB ln wL hL (k_let w) (by omega)) gL_act_X6_whyNot rfl rfl rfl (by decide +kernel) B.1 ⟨Nat.le_of_ble_eq_true rfl, Nat.le_of_ble_eq_true rfl⟩ rfl rfl (Nat.le_of_ble_eq_true rfl) dL_act_90 ⟨(Nat.le_of_ble_eq_true rfl), (Nat.le_of_ble_eq_true rfl)⟩ [0, 1, 2, 3, 4] [5] (by decide : ([0, 1, 2, 3, 4] ++ ([5] : List Nat)).Perm (List.range 6)) rfl rfl 93 rfl (fun v0 R0 t0 ht0 hp0 => ?_)
      obtain ⟨rfl, rfl⟩ := hp0
      refine q_eqs (st' := [.int (nI (k_wn bx ln sc (k_let w)))]) rfl ?_
      refine q_eqR (Rs' := [wX, wO, wA, wB, wL, wH]) rfl ?_
      refine q_if_eq C dL_act_93 96 101 rfl (by decide) (q_eq0 (by omega)) (fun h93 => ?_) (fun h93 => False.elim (by first | omega | simp_all))
      refine q_aload_n C dL_act_101 102 1 rfl rfl ?_
      refine q_iload_n C dL_act_102 103 0 rfl rfl ?_
      refine q_callV (k := 0) (ci := 5) (n := 1) (rest := []) (Rr := []) C rfl (k_isX_recv hX) rfl (c_X6_set_c l hZ hI hN hG h0 aO aY aN hsn aT aK wX hX aB aL aS sc wO hO wA hA bx at0 wB hB ln wL hL sv wH hH (k_let w) (by omega) hw hIv.1) gL_act_X6_set rfl rfl rfl (by decide +kernel) B.1 ⟨Nat.le_of_ble_eq_true rfl, Nat.le_of_ble_eq_true rfl⟩ rfl rfl (Nat.le_of_ble_eq_true rfl) dL_act_103 ⟨(Nat.le_of_ble_eq_true rfl), (Nat.le_of_ble_eq_true rfl)⟩ [0, 1, 2, 3, 4, 5] [] (by decide : ([0, 1, 2, 3, 4, 5] ++ ([] : List Nat)).Perm (List.range 6)) rfl rfl 106 rfl (fun v0 R0 t0 ht0 hp0 => ?_)
      obtain ⟨rfl, wO_103, hwO_103, wA_103, hwA_103, wB_103, hwB_103, wL_103, hwL_103, wH_103, hwH_103, rfl⟩ := hp0
      refine q_eqs (st' := [.int (nI (k_x bx (k_let w)))]) rfl ?_
      refine q_eqR (Rs' := [wX, wO_103, wA_103, wB_103, wL_103, wH_103]) rfl ?_
      exact q_iret C B dL_act_106 rfl rfl (fun t0 ht0 => ⟨rfl, _, hwO_103, _, hwA_103, _, hwB_103, _, hwL_103, _, hwH_103, by first | rfl | simp⟩)
    · refine q_tableIn C dL_act_24 88 (by decide) (by decide) rfl (by decide) ?_
      refine q_aload_n C dL_act_88 89 1 rfl rfl ?_
      refine q_iload_n C dL_act_89 90 0 rfl rfl ?_
      refine q_callV (k := 0) (ci := 5) (n := 1) (rest := []) (Rr := [wH]) C rfl (k_isX_recv hX) rfl (c_X6_whyNot_b l hZ hI hN h0 aO aY aN hsn aT aK wX hX aB aL aS sc wO hO wA hA bx at0 wB hB ln wL hL (k_let w) (by omega)) gL_act_X6_whyNot rfl rfl rfl (by decide +kernel) B.1 ⟨Nat.le_of_ble_eq_true rfl, Nat.le_of_ble_eq_true rfl⟩ rfl rfl (Nat.le_of_ble_eq_true rfl) dL_act_90 ⟨(Nat.le_of_ble_eq_true rfl), (Nat.le_of_ble_eq_true rfl)⟩ [0, 1, 2, 3, 4] [5] (by decide : ([0, 1, 2, 3, 4] ++ ([5] : List Nat)).Perm (List.range 6)) rfl rfl 93 rfl (fun v0 R0 t0 ht0 hp0 => ?_)
      obtain ⟨rfl, rfl⟩ := hp0
      refine q_eqs (st' := [.int (nI (k_wn bx ln sc (k_let w)))]) rfl ?_
      refine q_eqR (Rs' := [wX, wO, wA, wB, wL, wH]) rfl ?_
      refine q_if_eq C dL_act_93 96 101 rfl (by decide) (q_eq0 (by omega)) (fun h93 => ?_) (fun h93 => False.elim (by first | omega | simp_all))
      refine q_aload_n C dL_act_101 102 1 rfl rfl ?_
      refine q_iload_n C dL_act_102 103 0 rfl rfl ?_
      refine q_callV (k := 0) (ci := 5) (n := 1) (rest := []) (Rr := []) C rfl (k_isX_recv hX) rfl (c_X6_set_c l hZ hI hN hG h0 aO aY aN hsn aT aK wX hX aB aL aS sc wO hO wA hA bx at0 wB hB ln wL hL sv wH hH (k_let w) (by omega) hw hIv.1) gL_act_X6_set rfl rfl rfl (by decide +kernel) B.1 ⟨Nat.le_of_ble_eq_true rfl, Nat.le_of_ble_eq_true rfl⟩ rfl rfl (Nat.le_of_ble_eq_true rfl) dL_act_103 ⟨(Nat.le_of_ble_eq_true rfl), (Nat.le_of_ble_eq_true rfl)⟩ [0, 1, 2, 3, 4, 5] [] (by decide : ([0, 1, 2, 3, 4, 5] ++ ([] : List Nat)).Perm (List.range 6)) rfl rfl 106 rfl (fun v0 R0 t0 ht0 hp0 => ?_)
      obtain ⟨rfl, wO_103, hwO_103, wA_103, hwA_103, wB_103, hwB_103, wL_103, hwL_103, wH_103, hwH_103, rfl⟩ := hp0
      refine q_eqs (st' := [.int (nI (k_x bx (k_let w)))]) rfl ?_
      refine q_eqR (Rs' := [wX, wO_103, wA_103, wB_103, wL_103, wH_103]) rfl ?_
      exact q_iret C B dL_act_106 rfl rfl (fun t0 ht0 => ⟨rfl, _, hwO_103, _, hwA_103, _, hwB_103, _, hwL_103, _, hwH_103, by first | rfl | simp⟩)
    · refine q_tableIn C dL_act_24 88 (by decide) (by decide) rfl (by decide) ?_
      refine q_aload_n C dL_act_88 89 1 rfl rfl ?_
      refine q_iload_n C dL_act_89 90 0 rfl rfl ?_
      refine q_callV (k := 0) (ci := 5) (n := 1) (rest := []) (Rr := [wH]) C rfl (k_isX_recv hX) rfl (c_X6_whyNot_b l hZ hI hN h0 aO aY aN hsn aT aK wX hX aB aL aS sc wO hO wA hA bx at0 wB hB ln wL hL (k_let w) (by omega)) gL_act_X6_whyNot rfl rfl rfl (by decide +kernel) B.1 ⟨Nat.le_of_ble_eq_true rfl, Nat.le_of_ble_eq_true rfl⟩ rfl rfl (Nat.le_of_ble_eq_true rfl) dL_act_90 ⟨(Nat.le_of_ble_eq_true rfl), (Nat.le_of_ble_eq_true rfl)⟩ [0, 1, 2, 3, 4] [5] (by decide : ([0, 1, 2, 3, 4] ++ ([5] : List Nat)).Perm (List.range 6)) rfl rfl 93 rfl (fun v0 R0 t0 ht0 hp0 => ?_)
      obtain ⟨rfl, rfl⟩ := hp0
      refine q_eqs (st' := [.int (nI (k_wn bx ln sc (k_let w)))]) rfl ?_
      refine q_eqR (Rs' := [wX, wO, wA, wB, wL, wH]) rfl ?_
      refine q_if_eq C dL_act_93 96 101 rfl (by decide) (q_eq0 (by omega)) (fun h93 => ?_) (fun h93 => False.elim (by first | omega | simp_all))
      refine q_aload_n C dL_act_101 102 1 rfl rfl ?_
      refine q_iload_n C dL_act_102 103 0 rfl rfl ?_
      refine q_callV (k := 0) (ci := 5) (n := 1) (rest := []) (Rr := []) C rfl (k_isX_recv hX) rfl (c_X6_set_c l hZ hI hN hG h0 aO aY aN hsn aT aK wX hX aB aL aS sc wO hO wA hA bx at0 wB hB ln wL hL sv wH hH (k_let w) (by omega) hw hIv.1) gL_act_X6_set rfl rfl rfl (by decide +kernel) B.1 ⟨Nat.le_of_ble_eq_true rfl, Nat.le_of_ble_eq_true rfl⟩ rfl rfl (Nat.le_of_ble_eq_true rfl) dL_act_103 ⟨(Nat.le_of_ble_eq_true rfl), (Nat.le_of_ble_eq_true rfl)⟩ [0, 1, 2, 3, 4, 5] [] (by decide : ([0, 1, 2, 3, 4, 5] ++ ([] : List Nat)).Perm (List.range 6)) rfl rfl 106 rfl (fun v0 R0 t0 ht0 hp0 => ?_)
      obtain ⟨rfl, wO_103, hwO_103, wA_103, hwA_103, wB_103, hwB_103, wL_103, hwL_103, wH_103, hwH_103, rfl⟩ := hp0
      refine q_eqs (st' := [.int (nI (k_x bx (k_let w)))]) rfl ?_
      refine q_eqR (Rs' := [wX, wO_103, wA_103, wB_103, wL_103, wH_103]) rfl ?_
      exact q_iret C B dL_act_106 rfl rfl (fun t0 ht0 => ⟨rfl, _, hwO_103, _, hwA_103, _, hwB_103, _, hwL_103, _, hwH_103, by first | rfl | simp⟩)
  · refine q_iconst (v := nI 4) C dL_act_10 11 rfl (by decide) ?_
    refine q_goto C dL_act_11 16 (by decide) ?_
    refine q_callS (n := 2) (rest := []) (Rr := [wX, wO, wA, wB, wL, wH]) C (c_L_low l hZ hI w 4 (by omega) (by omega)) gL_act_L_low rfl rfl rfl (by decide +kernel) B.1 ⟨Nat.le_of_ble_eq_true rfl, Nat.le_of_ble_eq_true rfl⟩ rfl rfl (Nat.le_of_ble_eq_true rfl) dL_act_16 ⟨(Nat.le_of_ble_eq_true rfl), (Nat.le_of_ble_eq_true rfl)⟩ [] [0, 1, 2, 3, 4, 5] (by decide : ([] ++ ([0, 1, 2, 3, 4, 5] : List Nat)).Perm (List.range 6)) rfl rfl 19 rfl (fun v0 R0 t0 ht0 hp0 => ?_)
    obtain ⟨rfl, rfl⟩ := hp0
    refine q_eqs (st' := [.int (nI (k_low w 4))]) rfl ?_
    refine q_eqR (Rs' := [wX, wO, wA, wB, wL, wH]) rfl ?_
    have hlw16 : k_low w 4 < 4 := k_low_lt (by omega)
    refine q_eqs (st' := [.int (nI (k_let w))]) (by rw [show k_let w = k_low w 4 from by unfold k_let; rw [if_pos (by omega)]]) ?_
    refine q_istore_n C dL_act_19 20 rfl [(3, .int (nI (k_let w))), (0, .ref h0), (1, .int v), (2, .int w)] (by decide) rfl ?_
    refine q_iload_n C dL_act_20 21 2 rfl rfl ?_
    refine q_bipush (v := nI 15) C dL_act_21 23 rfl (by decide) ?_
    refine q_iand (v := nI ((k_jj v))) C dL_act_23 24 rfl (pk_and v 4 (by decide)) ?_
    obtain ⟨j, hjv⟩ : ∃ j, j = k_jj v := ⟨_, rfl⟩
    refine q_eqs (st' := [.int (nI j)]) (by rw [hjv]) ?_
    rcases (by omega : j = 0 ∨ j = 1 ∨ j = 2 ∨ j = 3 ∨ j = 4 ∨ j = 5) with rfl | rfl | rfl | rfl | rfl | rfl
    · refine q_tableIn C dL_act_24 88 (by decide) (by decide) rfl (by decide) ?_
      refine q_aload_n C dL_act_88 89 1 rfl rfl ?_
      refine q_iload_n C dL_act_89 90 0 rfl rfl ?_
      refine q_callV (k := 0) (ci := 5) (n := 1) (rest := []) (Rr := [wH]) C rfl (k_isX_recv hX) rfl (c_X6_whyNot_b l hZ hI hN h0 aO aY aN hsn aT aK wX hX aB aL aS sc wO hO wA hA bx at0 wB hB ln wL hL (k_let w) (by omega)) gL_act_X6_whyNot rfl rfl rfl (by decide +kernel) B.1 ⟨Nat.le_of_ble_eq_true rfl, Nat.le_of_ble_eq_true rfl⟩ rfl rfl (Nat.le_of_ble_eq_true rfl) dL_act_90 ⟨(Nat.le_of_ble_eq_true rfl), (Nat.le_of_ble_eq_true rfl)⟩ [0, 1, 2, 3, 4] [5] (by decide : ([0, 1, 2, 3, 4] ++ ([5] : List Nat)).Perm (List.range 6)) rfl rfl 93 rfl (fun v0 R0 t0 ht0 hp0 => ?_)
      obtain ⟨rfl, rfl⟩ := hp0
      refine q_eqs (st' := [.int (nI (k_wn bx ln sc (k_let w)))]) rfl ?_
      refine q_eqR (Rs' := [wX, wO, wA, wB, wL, wH]) rfl ?_
      refine q_if_eq C dL_act_93 96 101 rfl (by decide) (q_eq0 (by omega)) (fun h93 => ?_) (fun h93 => False.elim (by first | omega | simp_all))
      refine q_aload_n C dL_act_101 102 1 rfl rfl ?_
      refine q_iload_n C dL_act_102 103 0 rfl rfl ?_
      refine q_callV (k := 0) (ci := 5) (n := 1) (rest := []) (Rr := []) C rfl (k_isX_recv hX) rfl (c_X6_set_c l hZ hI hN hG h0 aO aY aN hsn aT aK wX hX aB aL aS sc wO hO wA hA bx at0 wB hB ln wL hL sv wH hH (k_let w) (by omega) hw hIv.1) gL_act_X6_set rfl rfl rfl (by decide +kernel) B.1 ⟨Nat.le_of_ble_eq_true rfl, Nat.le_of_ble_eq_true rfl⟩ rfl rfl (Nat.le_of_ble_eq_true rfl) dL_act_103 ⟨(Nat.le_of_ble_eq_true rfl), (Nat.le_of_ble_eq_true rfl)⟩ [0, 1, 2, 3, 4, 5] [] (by decide : ([0, 1, 2, 3, 4, 5] ++ ([] : List Nat)).Perm (List.range 6)) rfl rfl 106 rfl (fun v0 R0 t0 ht0 hp0 => ?_)
      obtain ⟨rfl, wO_103, hwO_103, wA_103, hwA_103, wB_103, hwB_103, wL_103, hwL_103, wH_103, hwH_103, rfl⟩ := hp0
      refine q_eqs (st' := [.int (nI (k_x bx (k_let w)))]) rfl ?_
      refine q_eqR (Rs' := [wX, wO_103, wA_103, wB_103, wL_103, wH_103]) rfl ?_
      exact q_iret C B dL_act_106 rfl rfl (fun t0 ht0 => ⟨rfl, _, hwO_103, _, hwA_103, _, hwB_103, _, hwL_103, _, hwH_103, by first | rfl | simp⟩)
    · refine q_tableIn C dL_act_24 88 (by decide) (by decide) rfl (by decide) ?_
      refine q_aload_n C dL_act_88 89 1 rfl rfl ?_
      refine q_iload_n C dL_act_89 90 0 rfl rfl ?_
      refine q_callV (k := 0) (ci := 5) (n := 1) (rest := []) (Rr := [wH]) C rfl (k_isX_recv hX) rfl (c_X6_whyNot_b l hZ hI hN h0 aO aY aN hsn aT aK wX hX aB aL aS sc wO hO wA hA bx at0 wB hB ln wL hL (k_let w) (by omega)) gL_act_X6_whyNot rfl rfl rfl (by decide +kernel) B.1 ⟨Nat.le_of_ble_eq_true rfl, Nat.le_of_ble_eq_true rfl⟩ rfl rfl (Nat.le_of_ble_eq_true rfl) dL_act_90 ⟨(Nat.le_of_ble_eq_true rfl), (Nat.le_of_ble_eq_true rfl)⟩ [0, 1, 2, 3, 4] [5] (by decide : ([0, 1, 2, 3, 4] ++ ([5] : List Nat)).Perm (List.range 6)) rfl rfl 93 rfl (fun v0 R0 t0 ht0 hp0 => ?_)
      obtain ⟨rfl, rfl⟩ := hp0
      refine q_eqs (st' := [.int (nI (k_wn bx ln sc (k_let w)))]) rfl ?_
      refine q_eqR (Rs' := [wX, wO, wA, wB, wL, wH]) rfl ?_
      refine q_if_eq C dL_act_93 96 101 rfl (by decide) (q_eq0 (by omega)) (fun h93 => ?_) (fun h93 => False.elim (by first | omega | simp_all))
      refine q_aload_n C dL_act_101 102 1 rfl rfl ?_
      refine q_iload_n C dL_act_102 103 0 rfl rfl ?_
      refine q_callV (k := 0) (ci := 5) (n := 1) (rest := []) (Rr := []) C rfl (k_isX_recv hX) rfl (c_X6_set_c l hZ hI hN hG h0 aO aY aN hsn aT aK wX hX aB aL aS sc wO hO wA hA bx at0 wB hB ln wL hL sv wH hH (k_let w) (by omega) hw hIv.1) gL_act_X6_set rfl rfl rfl (by decide +kernel) B.1 ⟨Nat.le_of_ble_eq_true rfl, Nat.le_of_ble_eq_true rfl⟩ rfl rfl (Nat.le_of_ble_eq_true rfl) dL_act_103 ⟨(Nat.le_of_ble_eq_true rfl), (Nat.le_of_ble_eq_true rfl)⟩ [0, 1, 2, 3, 4, 5] [] (by decide : ([0, 1, 2, 3, 4, 5] ++ ([] : List Nat)).Perm (List.range 6)) rfl rfl 106 rfl (fun v0 R0 t0 ht0 hp0 => ?_)
      obtain ⟨rfl, wO_103, hwO_103, wA_103, hwA_103, wB_103, hwB_103, wL_103, hwL_103, wH_103, hwH_103, rfl⟩ := hp0
      refine q_eqs (st' := [.int (nI (k_x bx (k_let w)))]) rfl ?_
      refine q_eqR (Rs' := [wX, wO_103, wA_103, wB_103, wL_103, wH_103]) rfl ?_
      exact q_iret C B dL_act_106 rfl rfl (fun t0 ht0 => ⟨rfl, _, hwO_103, _, hwA_103, _, hwB_103, _, hwL_103, _, hwH_103, by first | rfl | simp⟩)
    · refine q_tableIn C dL_act_24 88 (by decide) (by decide) rfl (by decide) ?_
      refine q_aload_n C dL_act_88 89 1 rfl rfl ?_
      refine q_iload_n C dL_act_89 90 0 rfl rfl ?_
      refine q_callV (k := 0) (ci := 5) (n := 1) (rest := []) (Rr := [wH]) C rfl (k_isX_recv hX) rfl (c_X6_whyNot_b l hZ hI hN h0 aO aY aN hsn aT aK wX hX aB aL aS sc wO hO wA hA bx at0 wB hB ln wL hL (k_let w) (by omega)) gL_act_X6_whyNot rfl rfl rfl (by decide +kernel) B.1 ⟨Nat.le_of_ble_eq_true rfl, Nat.le_of_ble_eq_true rfl⟩ rfl rfl (Nat.le_of_ble_eq_true rfl) dL_act_90 ⟨(Nat.le_of_ble_eq_true rfl), (Nat.le_of_ble_eq_true rfl)⟩ [0, 1, 2, 3, 4] [5] (by decide : ([0, 1, 2, 3, 4] ++ ([5] : List Nat)).Perm (List.range 6)) rfl rfl 93 rfl (fun v0 R0 t0 ht0 hp0 => ?_)
      obtain ⟨rfl, rfl⟩ := hp0
      refine q_eqs (st' := [.int (nI (k_wn bx ln sc (k_let w)))]) rfl ?_
      refine q_eqR (Rs' := [wX, wO, wA, wB, wL, wH]) rfl ?_
      refine q_if_eq C dL_act_93 96 101 rfl (by decide) (q_eq0 (by omega)) (fun h93 => ?_) (fun h93 => False.elim (by first | omega | simp_all))
      refine q_aload_n C dL_act_101 102 1 rfl rfl ?_
      refine q_iload_n C dL_act_102 103 0 rfl rfl ?_
      refine q_callV (k := 0) (ci := 5) (n := 1) (rest := []) (Rr := []) C rfl (k_isX_recv hX) rfl (c_X6_set_c l hZ hI hN hG h0 aO aY aN hsn aT aK wX hX aB aL aS sc wO hO wA hA bx at0 wB hB ln wL hL sv wH hH (k_let w) (by omega) hw hIv.1) gL_act_X6_set rfl rfl rfl (by decide +kernel) B.1 ⟨Nat.le_of_ble_eq_true rfl, Nat.le_of_ble_eq_true rfl⟩ rfl rfl (Nat.le_of_ble_eq_true rfl) dL_act_103 ⟨(Nat.le_of_ble_eq_true rfl), (Nat.le_of_ble_eq_true rfl)⟩ [0, 1, 2, 3, 4, 5] [] (by decide : ([0, 1, 2, 3, 4, 5] ++ ([] : List Nat)).Perm (List.range 6)) rfl rfl 106 rfl (fun v0 R0 t0 ht0 hp0 => ?_)
      obtain ⟨rfl, wO_103, hwO_103, wA_103, hwA_103, wB_103, hwB_103, wL_103, hwL_103, wH_103, hwH_103, rfl⟩ := hp0
      refine q_eqs (st' := [.int (nI (k_x bx (k_let w)))]) rfl ?_
      refine q_eqR (Rs' := [wX, wO_103, wA_103, wB_103, wL_103, wH_103]) rfl ?_
      exact q_iret C B dL_act_106 rfl rfl (fun t0 ht0 => ⟨rfl, _, hwO_103, _, hwA_103, _, hwB_103, _, hwL_103, _, hwH_103, by first | rfl | simp⟩)
    · refine q_tableIn C dL_act_24 88 (by decide) (by decide) rfl (by decide) ?_
      refine q_aload_n C dL_act_88 89 1 rfl rfl ?_
      refine q_iload_n C dL_act_89 90 0 rfl rfl ?_
      refine q_callV (k := 0) (ci := 5) (n := 1) (rest := []) (Rr := [wH]) C rfl (k_isX_recv hX) rfl (c_X6_whyNot_b l hZ hI hN h0 aO aY aN hsn aT aK wX hX aB aL aS sc wO hO wA hA bx at0 wB hB ln wL hL (k_let w) (by omega)) gL_act_X6_whyNot rfl rfl rfl (by decide +kernel) B.1 ⟨Nat.le_of_ble_eq_true rfl, Nat.le_of_ble_eq_true rfl⟩ rfl rfl (Nat.le_of_ble_eq_true rfl) dL_act_90 ⟨(Nat.le_of_ble_eq_true rfl), (Nat.le_of_ble_eq_true rfl)⟩ [0, 1, 2, 3, 4] [5] (by decide : ([0, 1, 2, 3, 4] ++ ([5] : List Nat)).Perm (List.range 6)) rfl rfl 93 rfl (fun v0 R0 t0 ht0 hp0 => ?_)
      obtain ⟨rfl, rfl⟩ := hp0
      refine q_eqs (st' := [.int (nI (k_wn bx ln sc (k_let w)))]) rfl ?_
      refine q_eqR (Rs' := [wX, wO, wA, wB, wL, wH]) rfl ?_
      refine q_if_eq C dL_act_93 96 101 rfl (by decide) (q_eq0 (by omega)) (fun h93 => ?_) (fun h93 => False.elim (by first | omega | simp_all))
      refine q_aload_n C dL_act_101 102 1 rfl rfl ?_
      refine q_iload_n C dL_act_102 103 0 rfl rfl ?_
      refine q_callV (k := 0) (ci := 5) (n := 1) (rest := []) (Rr := []) C rfl (k_isX_recv hX) rfl (c_X6_set_c l hZ hI hN hG h0 aO aY aN hsn aT aK wX hX aB aL aS sc wO hO wA hA bx at0 wB hB ln wL hL sv wH hH (k_let w) (by omega) hw hIv.1) gL_act_X6_set rfl rfl rfl (by decide +kernel) B.1 ⟨Nat.le_of_ble_eq_true rfl, Nat.le_of_ble_eq_true rfl⟩ rfl rfl (Nat.le_of_ble_eq_true rfl) dL_act_103 ⟨(Nat.le_of_ble_eq_true rfl), (Nat.le_of_ble_eq_true rfl)⟩ [0, 1, 2, 3, 4, 5] [] (by decide : ([0, 1, 2, 3, 4, 5] ++ ([] : List Nat)).Perm (List.range 6)) rfl rfl 106 rfl (fun v0 R0 t0 ht0 hp0 => ?_)
      obtain ⟨rfl, wO_103, hwO_103, wA_103, hwA_103, wB_103, hwB_103, wL_103, hwL_103, wH_103, hwH_103, rfl⟩ := hp0
      refine q_eqs (st' := [.int (nI (k_x bx (k_let w)))]) rfl ?_
      refine q_eqR (Rs' := [wX, wO_103, wA_103, wB_103, wL_103, wH_103]) rfl ?_
      exact q_iret C B dL_act_106 rfl rfl (fun t0 ht0 => ⟨rfl, _, hwO_103, _, hwA_103, _, hwB_103, _, hwL_103, _, hwH_103, by first | rfl | simp⟩)
    · refine q_tableIn C dL_act_24 88 (by decide) (by decide) rfl (by decide) ?_
      refine q_aload_n C dL_act_88 89 1 rfl rfl ?_
      refine q_iload_n C dL_act_89 90 0 rfl rfl ?_
      refine q_callV (k := 0) (ci := 5) (n := 1) (rest := []) (Rr := [wH]) C rfl (k_isX_recv hX) rfl (c_X6_whyNot_b l hZ hI hN h0 aO aY aN hsn aT aK wX hX aB aL aS sc wO hO wA hA bx at0 wB hB ln wL hL (k_let w) (by omega)) gL_act_X6_whyNot rfl rfl rfl (by decide +kernel) B.1 ⟨Nat.le_of_ble_eq_true rfl, Nat.le_of_ble_eq_true rfl⟩ rfl rfl (Nat.le_of_ble_eq_true rfl) dL_act_90 ⟨(Nat.le_of_ble_eq_true rfl), (Nat.le_of_ble_eq_true rfl)⟩ [0, 1, 2, 3, 4] [5] (by decide : ([0, 1, 2, 3, 4] ++ ([5] : List Nat)).Perm (List.range 6)) rfl rfl 93 rfl (fun v0 R0 t0 ht0 hp0 => ?_)
      obtain ⟨rfl, rfl⟩ := hp0
      refine q_eqs (st' := [.int (nI (k_wn bx ln sc (k_let w)))]) rfl ?_
      refine q_eqR (Rs' := [wX, wO, wA, wB, wL, wH]) rfl ?_
      refine q_if_eq C dL_act_93 96 101 rfl (by decide) (q_eq0 (by omega)) (fun h93 => ?_) (fun h93 => False.elim (by first | omega | simp_all))
      refine q_aload_n C dL_act_101 102 1 rfl rfl ?_
      refine q_iload_n C dL_act_102 103 0 rfl rfl ?_
      refine q_callV (k := 0) (ci := 5) (n := 1) (rest := []) (Rr := []) C rfl (k_isX_recv hX) rfl (c_X6_set_c l hZ hI hN hG h0 aO aY aN hsn aT aK wX hX aB aL aS sc wO hO wA hA bx at0 wB hB ln wL hL sv wH hH (k_let w) (by omega) hw hIv.1) gL_act_X6_set rfl rfl rfl (by decide +kernel) B.1 ⟨Nat.le_of_ble_eq_true rfl, Nat.le_of_ble_eq_true rfl⟩ rfl rfl (Nat.le_of_ble_eq_true rfl) dL_act_103 ⟨(Nat.le_of_ble_eq_true rfl), (Nat.le_of_ble_eq_true rfl)⟩ [0, 1, 2, 3, 4, 5] [] (by decide : ([0, 1, 2, 3, 4, 5] ++ ([] : List Nat)).Perm (List.range 6)) rfl rfl 106 rfl (fun v0 R0 t0 ht0 hp0 => ?_)
      obtain ⟨rfl, wO_103, hwO_103, wA_103, hwA_103, wB_103, hwB_103, wL_103, hwL_103, wH_103, hwH_103, rfl⟩ := hp0
      refine q_eqs (st' := [.int (nI (k_x bx (k_let w)))]) rfl ?_
      refine q_eqR (Rs' := [wX, wO_103, wA_103, wB_103, wL_103, wH_103]) rfl ?_
      exact q_iret C B dL_act_106 rfl rfl (fun t0 ht0 => ⟨rfl, _, hwO_103, _, hwA_103, _, hwB_103, _, hwL_103, _, hwH_103, by first | rfl | simp⟩)
    · refine q_tableIn C dL_act_24 88 (by decide) (by decide) rfl (by decide) ?_
      refine q_aload_n C dL_act_88 89 1 rfl rfl ?_
      refine q_iload_n C dL_act_89 90 0 rfl rfl ?_
      refine q_callV (k := 0) (ci := 5) (n := 1) (rest := []) (Rr := [wH]) C rfl (k_isX_recv hX) rfl (c_X6_whyNot_b l hZ hI hN h0 aO aY aN hsn aT aK wX hX aB aL aS sc wO hO wA hA bx at0 wB hB ln wL hL (k_let w) (by omega)) gL_act_X6_whyNot rfl rfl rfl (by decide +kernel) B.1 ⟨Nat.le_of_ble_eq_true rfl, Nat.le_of_ble_eq_true rfl⟩ rfl rfl (Nat.le_of_ble_eq_true rfl) dL_act_90 ⟨(Nat.le_of_ble_eq_true rfl), (Nat.le_of_ble_eq_true rfl)⟩ [0, 1, 2, 3, 4] [5] (by decide : ([0, 1, 2, 3, 4] ++ ([5] : List Nat)).Perm (List.range 6)) rfl rfl 93 rfl (fun v0 R0 t0 ht0 hp0 => ?_)
      obtain ⟨rfl, rfl⟩ := hp0
      refine q_eqs (st' := [.int (nI (k_wn bx ln sc (k_let w)))]) rfl ?_
      refine q_eqR (Rs' := [wX, wO, wA, wB, wL, wH]) rfl ?_
      refine q_if_eq C dL_act_93 96 101 rfl (by decide) (q_eq0 (by omega)) (fun h93 => ?_) (fun h93 => False.elim (by first | omega | simp_all))
      refine q_aload_n C dL_act_101 102 1 rfl rfl ?_
      refine q_iload_n C dL_act_102 103 0 rfl rfl ?_
      refine q_callV (k := 0) (ci := 5) (n := 1) (rest := []) (Rr := []) C rfl (k_isX_recv hX) rfl (c_X6_set_c l hZ hI hN hG h0 aO aY aN hsn aT aK wX hX aB aL aS sc wO hO wA hA bx at0 wB hB ln wL hL sv wH hH (k_let w) (by omega) hw hIv.1) gL_act_X6_set rfl rfl rfl (by decide +kernel) B.1 ⟨Nat.le_of_ble_eq_true rfl, Nat.le_of_ble_eq_true rfl⟩ rfl rfl (Nat.le_of_ble_eq_true rfl) dL_act_103 ⟨(Nat.le_of_ble_eq_true rfl), (Nat.le_of_ble_eq_true rfl)⟩ [0, 1, 2, 3, 4, 5] [] (by decide : ([0, 1, 2, 3, 4, 5] ++ ([] : List Nat)).Perm (List.range 6)) rfl rfl 106 rfl (fun v0 R0 t0 ht0 hp0 => ?_)
      obtain ⟨rfl, wO_103, hwO_103, wA_103, hwA_103, wB_103, hwB_103, wL_103, hwL_103, wH_103, hwH_103, rfl⟩ := hp0
      refine q_eqs (st' := [.int (nI (k_x bx (k_let w)))]) rfl ?_
      refine q_eqR (Rs' := [wX, wO_103, wA_103, wB_103, wL_103, wH_103]) rfl ?_
      exact q_iret C B dL_act_106 rfl rfl (fun t0 ht0 => ⟨rfl, _, hwO_103, _, hwA_103, _, hwB_103, _, hwL_103, _, hwH_103, by first | rfl | simp⟩)

set_option maxHeartbeats 400000 in
set_option maxRecDepth 100000 in
theorem c_L_act_i (l : Launch) {D : va_G} {tys : List (ClassId × FieldType)} {Z : (Nat → Prop) → State → Heap → Prop} (hZ : q_St Z) {cI : ClassId} (hI : tys[0]? = some (cI, .int)) (hN : q_Ns Z) {cG : ClassId} (hG : tys[1]? = some (cG, .object "SortCases$State")) {tL tH : Nat} (hVs : q_Vs Z tL tH) (h0 : Nat) (aO : Nat) (aY : Nat) (aN : Nat) (hsn : Int32) (aT : Nat) (aK : Nat) (wX : va_W) (hX : k_isX cI h0 aO aY aN hsn aT aK wX) (aB : Nat) (aL : Nat) (aS : Nat) (sc : Nat → Int32) (wO : va_W) (hO : k_isO cI aO aB aL aS sc wO) (wA : va_W) (hA : k_isA cI aS sc wA) (bx : k_Bx) (at0 : Nat) (wB : va_W) (hB : k_isB cI aB bx at0 wB) (ln : List (Nat × Nat)) (wL : va_W) (hL : k_isL cI aL ln wL) (sv : List k_S) (wH : va_W) (hH : k_isH cG cI aY sv wH) (v : Int32) (w : Int32) (hIv : k_Iv (bx, at0, ln, sc)) (h2 : sc 2 = nI 0 ∨ sc 2 = nI 1) (hj : 6 ≤ k_jj v ∧ k_jj v < 8) : q_Ct l D tys Z yL_act wsL_act ({ frames := 9, cells := 0, slots := 0, locals := 282 } : Room) 0 0 [.ref h0, .int v, .int w] [wX, wO, wA, wB, wL, wH] (fun v0 R0 _ => v0 = some (.int (nI (k_cnt (k_bm bx at0 (-1)) (k_idl w)))) ∧ ∃ wO', k_isO cI aO aB aL aS (k_psc bx at0 (upd sc 3 (-1)) (k_idl w)) wO' ∧ ∃ wA', k_isA cI aS (k_psc bx at0 (upd sc 3 (-1)) (k_idl w)) wA' ∧ ∃ wB', k_isB cI aB ((k_bs bx at0 (-1) (k_idl w)).1) ((k_bs bx at0 (-1) (k_idl w)).2) wB' ∧ ∃ wH', k_isH cG cI aY ((k_sav sv (bx, at0, ln, sc))) wH' ∧ R0 = [wX, wO', wA', wB', wL, wH']) := by
  have hcI := hI
  have hcG := hG
  refine q_ct (cc := cL_act) (maxL := 6) (ret := (some .int)) (own := RL) (by decide) rfl hZ (Nat.le_of_ble_eq_true rfl) rfl ?_
  intro p9 e9 R s9 m9 args below meth c9 A Q C B
  have hts := C.2.2.2.2.1
  refine q_eqL (L' := [(0, .ref h0), (1, .int v), (2, .int w)]) rfl ?_
  have hll := hL.1.1
  have hok := hB.2.1
  have hcs := k_Cv_cs (S := (bx, at0, ln, sc)) hIv.2
  have hws := k_Cv_ws (S := (bx, at0, ln, sc)) hok hIv.2
  have hbw := k_b20_lt w
  have hlt := k_let_lt w
  have hwnl := k_wn_le bx ln sc (k_let w)
  have hj16 := k_jj_lt v
  refine q_iload_n C dL_act_0 1 2 rfl rfl ?_
  refine q_iload_n C dL_act_1 2 2 rfl rfl ?_
  refine q_bipush (v := nI 20) C dL_act_2 4 rfl (by decide) ?_
  refine q_ishr (v := w >>> 20) C dL_act_4 5 rfl (by rw [show nI 20 &&& 31 = (20 : Int32) by decide]) ?_
  refine q_iconst (v := nI 1) C dL_act_5 6 rfl (by decide) ?_
  refine q_iand (v := nI ((k_b20 w))) C dL_act_6 7 rfl (pk_and (w >>> 20) 1 (by decide)) ?_
  refine q_if_ne C dL_act_7 10 14 rfl (by decide) (q_eq0 (by omega)) (fun h7 => ?_) (fun h7 => ?_)
  · refine q_bipush (v := nI 12) C dL_act_14 16 rfl (by decide) ?_
    refine q_callS (n := 2) (rest := []) (Rr := [wX, wO, wA, wB, wL, wH]) C (c_L_low l hZ hI w 12 (by omega) (by omega)) gL_act_L_low rfl rfl rfl (by decide +kernel) B.1 ⟨Nat.le_of_ble_eq_true rfl, Nat.le_of_ble_eq_true rfl⟩ rfl rfl (Nat.le_of_ble_eq_true rfl) dL_act_16 ⟨(Nat.le_of_ble_eq_true rfl), (Nat.le_of_ble_eq_true rfl)⟩ [] [0, 1, 2, 3, 4, 5] (by decide : ([] ++ ([0, 1, 2, 3, 4, 5] : List Nat)).Perm (List.range 6)) rfl rfl 19 rfl (fun v0 R0 t0 ht0 hp0 => ?_)
    obtain ⟨rfl, rfl⟩ := hp0
    refine q_eqs (st' := [.int (nI (k_low w 12))]) rfl ?_
    refine q_eqR (Rs' := [wX, wO, wA, wB, wL, wH]) rfl ?_
    have hlw16 : k_low w 12 < 12 := k_low_lt (by omega)
    refine q_istore_n C dL_act_19 20 rfl [(3, .int (nI (k_low w 12))), (0, .ref h0), (1, .int v), (2, .int w)] (by decide) rfl ?_
    refine q_iload_n C dL_act_20 21 2 rfl rfl ?_
    refine q_bipush (v := nI 15) C dL_act_21 23 rfl (by decide) ?_
    refine q_iand (v := nI ((k_jj v))) C dL_act_23 24 rfl (pk_and v 4 (by decide)) ?_
    obtain ⟨j, hjv⟩ : ∃ j, j = k_jj v := ⟨_, rfl⟩
    refine q_eqs (st' := [.int (nI j)]) (by rw [hjv]) ?_
    rcases (by omega : j = 6 ∨ j = 7) with rfl | rfl
    · refine q_tableIn C dL_act_24 107 (by decide) (by decide) rfl (by decide) ?_
      refine q_aload_n C dL_act_107 108 1 rfl rfl ?_
      refine q_iconst (v := nI 1) C dL_act_108 109 rfl (by decide) ?_
      refine q_iload_n C dL_act_109 110 3 rfl rfl ?_
      refine q_iload_n C dL_act_110 111 3 rfl rfl ?_
      refine q_bipush (v := nI 20) C dL_act_111 113 rfl (by decide) ?_
      refine q_ishr (v := w >>> 20) C dL_act_113 114 rfl (by rw [show nI 20 &&& 31 = (20 : Int32) by decide]) ?_
      refine q_iconst (v := nI 1) C dL_act_114 115 rfl (by decide) ?_
      refine q_iand (v := nI ((k_b20 w))) C dL_act_115 116 rfl (pk_and (w >>> 20) 1 (by decide)) ?_
      refine q_if_ne C dL_act_116 119 123 rfl (by decide) (q_eq0 (by omega)) (fun h116 => ?_) (fun h116 => False.elim (by first | omega | simp_all))
      refine q_bipush (v := nI 60) C dL_act_123 125 rfl (by decide) ?_
      refine q_callS (n := 2) (rest := [.int (nI 1), .ref h0]) (Rr := [wX, wO, wA, wB, wL, wH]) C (c_L_low l hZ hI w 60 (by omega) (by omega)) gL_act_L_low rfl rfl rfl (by decide +kernel) B.1 ⟨Nat.le_of_ble_eq_true rfl, Nat.le_of_ble_eq_true rfl⟩ rfl rfl (Nat.le_of_ble_eq_true rfl) dL_act_125 ⟨(Nat.le_of_ble_eq_true rfl), (Nat.le_of_ble_eq_true rfl)⟩ [] [0, 1, 2, 3, 4, 5] (by decide : ([] ++ ([0, 1, 2, 3, 4, 5] : List Nat)).Perm (List.range 6)) rfl rfl 128 rfl (fun v0 R0 t0 ht0 hp0 => ?_)
      obtain ⟨rfl, rfl⟩ := hp0
      refine q_eqs (st' := [.int (nI (k_low w 60)), .int (nI 1), .ref h0]) rfl ?_
      refine q_eqR (Rs' := [wX, wO, wA, wB, wL, wH]) rfl ?_
      have hlw125 : k_low w 60 < 60 := k_low_lt (by omega)
      refine q_iadd (v := nI (k_low w 60 + 1)) C dL_act_128 129 rfl (q_nadd (by omega)) ?_
      refine q_eqs (st' := [.int (nI (k_idl w)), .ref h0]) (by rw [show k_idl w = k_low w 60 + 1 from by unfold k_idl; rw [if_neg (by omega), Nat.add_comm]]) ?_
      refine q_callV (k := 0) (ci := 5) (n := 1) (rest := []) (Rr := []) C rfl (k_isX_recv hX) rfl (c_X6_idle_b l hZ hI hG h0 aO aY aN hsn aT aK wX hX aB aL aS sc wO hO wA hA bx at0 wB hB ln wL hL sv wH hH (k_idl w) (k_idl_le w).1 (k_idl_le w).2) gL_act_X6_idle rfl rfl rfl (by decide +kernel) B.1 ⟨Nat.le_of_ble_eq_true rfl, Nat.le_of_ble_eq_true rfl⟩ rfl rfl (Nat.le_of_ble_eq_true rfl) dL_act_129 ⟨(Nat.le_of_ble_eq_true rfl), (Nat.le_of_ble_eq_true rfl)⟩ [0, 1, 2, 3, 4, 5] [] (by decide : ([0, 1, 2, 3, 4, 5] ++ ([] : List Nat)).Perm (List.range 6)) rfl rfl 132 rfl (fun v0 R0 t0 ht0 hp0 => ?_)
      obtain ⟨rfl, wO_129, hwO_129, wA_129, hwA_129, wB_129, hwB_129, wH_129, hwH_129, rfl⟩ := hp0
      refine q_eqs (st' := [.int (nI (k_cnt (k_bm bx at0 (-1)) (k_idl w)))]) rfl ?_
      refine q_eqR (Rs' := [wX, wO_129, wA_129, wB_129, wL, wH_129]) rfl ?_
      exact q_iret C B dL_act_132 rfl rfl (fun t0 ht0 => ⟨rfl, _, hwO_129, _, hwA_129, _, hwB_129, _, hwH_129, by first | rfl | simp⟩)
    · refine q_tableIn C dL_act_24 107 (by decide) (by decide) rfl (by decide) ?_
      refine q_aload_n C dL_act_107 108 1 rfl rfl ?_
      refine q_iconst (v := nI 1) C dL_act_108 109 rfl (by decide) ?_
      refine q_iload_n C dL_act_109 110 3 rfl rfl ?_
      refine q_iload_n C dL_act_110 111 3 rfl rfl ?_
      refine q_bipush (v := nI 20) C dL_act_111 113 rfl (by decide) ?_
      refine q_ishr (v := w >>> 20) C dL_act_113 114 rfl (by rw [show nI 20 &&& 31 = (20 : Int32) by decide]) ?_
      refine q_iconst (v := nI 1) C dL_act_114 115 rfl (by decide) ?_
      refine q_iand (v := nI ((k_b20 w))) C dL_act_115 116 rfl (pk_and (w >>> 20) 1 (by decide)) ?_
      refine q_if_ne C dL_act_116 119 123 rfl (by decide) (q_eq0 (by omega)) (fun h116 => ?_) (fun h116 => False.elim (by first | omega | simp_all))
      refine q_bipush (v := nI 60) C dL_act_123 125 rfl (by decide) ?_
      refine q_callS (n := 2) (rest := [.int (nI 1), .ref h0]) (Rr := [wX, wO, wA, wB, wL, wH]) C (c_L_low l hZ hI w 60 (by omega) (by omega)) gL_act_L_low rfl rfl rfl (by decide +kernel) B.1 ⟨Nat.le_of_ble_eq_true rfl, Nat.le_of_ble_eq_true rfl⟩ rfl rfl (Nat.le_of_ble_eq_true rfl) dL_act_125 ⟨(Nat.le_of_ble_eq_true rfl), (Nat.le_of_ble_eq_true rfl)⟩ [] [0, 1, 2, 3, 4, 5] (by decide : ([] ++ ([0, 1, 2, 3, 4, 5] : List Nat)).Perm (List.range 6)) rfl rfl 128 rfl (fun v0 R0 t0 ht0 hp0 => ?_)
      obtain ⟨rfl, rfl⟩ := hp0
      refine q_eqs (st' := [.int (nI (k_low w 60)), .int (nI 1), .ref h0]) rfl ?_
      refine q_eqR (Rs' := [wX, wO, wA, wB, wL, wH]) rfl ?_
      have hlw125 : k_low w 60 < 60 := k_low_lt (by omega)
      refine q_iadd (v := nI (k_low w 60 + 1)) C dL_act_128 129 rfl (q_nadd (by omega)) ?_
      refine q_eqs (st' := [.int (nI (k_idl w)), .ref h0]) (by rw [show k_idl w = k_low w 60 + 1 from by unfold k_idl; rw [if_neg (by omega), Nat.add_comm]]) ?_
      refine q_callV (k := 0) (ci := 5) (n := 1) (rest := []) (Rr := []) C rfl (k_isX_recv hX) rfl (c_X6_idle_b l hZ hI hG h0 aO aY aN hsn aT aK wX hX aB aL aS sc wO hO wA hA bx at0 wB hB ln wL hL sv wH hH (k_idl w) (k_idl_le w).1 (k_idl_le w).2) gL_act_X6_idle rfl rfl rfl (by decide +kernel) B.1 ⟨Nat.le_of_ble_eq_true rfl, Nat.le_of_ble_eq_true rfl⟩ rfl rfl (Nat.le_of_ble_eq_true rfl) dL_act_129 ⟨(Nat.le_of_ble_eq_true rfl), (Nat.le_of_ble_eq_true rfl)⟩ [0, 1, 2, 3, 4, 5] [] (by decide : ([0, 1, 2, 3, 4, 5] ++ ([] : List Nat)).Perm (List.range 6)) rfl rfl 132 rfl (fun v0 R0 t0 ht0 hp0 => ?_)
      obtain ⟨rfl, wO_129, hwO_129, wA_129, hwA_129, wB_129, hwB_129, wH_129, hwH_129, rfl⟩ := hp0
      refine q_eqs (st' := [.int (nI (k_cnt (k_bm bx at0 (-1)) (k_idl w)))]) rfl ?_
      refine q_eqR (Rs' := [wX, wO_129, wA_129, wB_129, wL, wH_129]) rfl ?_
      exact q_iret C B dL_act_132 rfl rfl (fun t0 ht0 => ⟨rfl, _, hwO_129, _, hwA_129, _, hwB_129, _, hwH_129, by first | rfl | simp⟩)
  · refine q_iconst (v := nI 4) C dL_act_10 11 rfl (by decide) ?_
    refine q_goto C dL_act_11 16 (by decide) ?_
    refine q_callS (n := 2) (rest := []) (Rr := [wX, wO, wA, wB, wL, wH]) C (c_L_low l hZ hI w 4 (by omega) (by omega)) gL_act_L_low rfl rfl rfl (by decide +kernel) B.1 ⟨Nat.le_of_ble_eq_true rfl, Nat.le_of_ble_eq_true rfl⟩ rfl rfl (Nat.le_of_ble_eq_true rfl) dL_act_16 ⟨(Nat.le_of_ble_eq_true rfl), (Nat.le_of_ble_eq_true rfl)⟩ [] [0, 1, 2, 3, 4, 5] (by decide : ([] ++ ([0, 1, 2, 3, 4, 5] : List Nat)).Perm (List.range 6)) rfl rfl 19 rfl (fun v0 R0 t0 ht0 hp0 => ?_)
    obtain ⟨rfl, rfl⟩ := hp0
    refine q_eqs (st' := [.int (nI (k_low w 4))]) rfl ?_
    refine q_eqR (Rs' := [wX, wO, wA, wB, wL, wH]) rfl ?_
    have hlw16 : k_low w 4 < 4 := k_low_lt (by omega)
    refine q_istore_n C dL_act_19 20 rfl [(3, .int (nI (k_low w 4))), (0, .ref h0), (1, .int v), (2, .int w)] (by decide) rfl ?_
    refine q_iload_n C dL_act_20 21 2 rfl rfl ?_
    refine q_bipush (v := nI 15) C dL_act_21 23 rfl (by decide) ?_
    refine q_iand (v := nI ((k_jj v))) C dL_act_23 24 rfl (pk_and v 4 (by decide)) ?_
    obtain ⟨j, hjv⟩ : ∃ j, j = k_jj v := ⟨_, rfl⟩
    refine q_eqs (st' := [.int (nI j)]) (by rw [hjv]) ?_
    rcases (by omega : j = 6 ∨ j = 7) with rfl | rfl
    · refine q_tableIn C dL_act_24 107 (by decide) (by decide) rfl (by decide) ?_
      refine q_aload_n C dL_act_107 108 1 rfl rfl ?_
      refine q_iconst (v := nI 1) C dL_act_108 109 rfl (by decide) ?_
      refine q_iload_n C dL_act_109 110 3 rfl rfl ?_
      refine q_iload_n C dL_act_110 111 3 rfl rfl ?_
      refine q_bipush (v := nI 20) C dL_act_111 113 rfl (by decide) ?_
      refine q_ishr (v := w >>> 20) C dL_act_113 114 rfl (by rw [show nI 20 &&& 31 = (20 : Int32) by decide]) ?_
      refine q_iconst (v := nI 1) C dL_act_114 115 rfl (by decide) ?_
      refine q_iand (v := nI ((k_b20 w))) C dL_act_115 116 rfl (pk_and (w >>> 20) 1 (by decide)) ?_
      refine q_if_ne C dL_act_116 119 123 rfl (by decide) (q_eq0 (by omega)) (fun h116 => False.elim (by first | omega | simp_all)) (fun h116 => ?_)
      refine q_iconst (v := nI 5) C dL_act_119 120 rfl (by decide) ?_
      refine q_goto C dL_act_120 125 (by decide) ?_
      refine q_callS (n := 2) (rest := [.int (nI 1), .ref h0]) (Rr := [wX, wO, wA, wB, wL, wH]) C (c_L_low l hZ hI w 5 (by omega) (by omega)) gL_act_L_low rfl rfl rfl (by decide +kernel) B.1 ⟨Nat.le_of_ble_eq_true rfl, Nat.le_of_ble_eq_true rfl⟩ rfl rfl (Nat.le_of_ble_eq_true rfl) dL_act_125 ⟨(Nat.le_of_ble_eq_true rfl), (Nat.le_of_ble_eq_true rfl)⟩ [] [0, 1, 2, 3, 4, 5] (by decide : ([] ++ ([0, 1, 2, 3, 4, 5] : List Nat)).Perm (List.range 6)) rfl rfl 128 rfl (fun v0 R0 t0 ht0 hp0 => ?_)
      obtain ⟨rfl, rfl⟩ := hp0
      refine q_eqs (st' := [.int (nI (k_low w 5)), .int (nI 1), .ref h0]) rfl ?_
      refine q_eqR (Rs' := [wX, wO, wA, wB, wL, wH]) rfl ?_
      have hlw125 : k_low w 5 < 5 := k_low_lt (by omega)
      refine q_iadd (v := nI (k_low w 5 + 1)) C dL_act_128 129 rfl (q_nadd (by omega)) ?_
      refine q_eqs (st' := [.int (nI (k_idl w)), .ref h0]) (by rw [show k_idl w = k_low w 5 + 1 from by unfold k_idl; rw [if_pos (by omega), Nat.add_comm]]) ?_
      refine q_callV (k := 0) (ci := 5) (n := 1) (rest := []) (Rr := []) C rfl (k_isX_recv hX) rfl (c_X6_idle_b l hZ hI hG h0 aO aY aN hsn aT aK wX hX aB aL aS sc wO hO wA hA bx at0 wB hB ln wL hL sv wH hH (k_idl w) (k_idl_le w).1 (k_idl_le w).2) gL_act_X6_idle rfl rfl rfl (by decide +kernel) B.1 ⟨Nat.le_of_ble_eq_true rfl, Nat.le_of_ble_eq_true rfl⟩ rfl rfl (Nat.le_of_ble_eq_true rfl) dL_act_129 ⟨(Nat.le_of_ble_eq_true rfl), (Nat.le_of_ble_eq_true rfl)⟩ [0, 1, 2, 3, 4, 5] [] (by decide : ([0, 1, 2, 3, 4, 5] ++ ([] : List Nat)).Perm (List.range 6)) rfl rfl 132 rfl (fun v0 R0 t0 ht0 hp0 => ?_)
      obtain ⟨rfl, wO_129, hwO_129, wA_129, hwA_129, wB_129, hwB_129, wH_129, hwH_129, rfl⟩ := hp0
      refine q_eqs (st' := [.int (nI (k_cnt (k_bm bx at0 (-1)) (k_idl w)))]) rfl ?_
      refine q_eqR (Rs' := [wX, wO_129, wA_129, wB_129, wL, wH_129]) rfl ?_
      exact q_iret C B dL_act_132 rfl rfl (fun t0 ht0 => ⟨rfl, _, hwO_129, _, hwA_129, _, hwB_129, _, hwH_129, by first | rfl | simp⟩)
    · refine q_tableIn C dL_act_24 107 (by decide) (by decide) rfl (by decide) ?_
      refine q_aload_n C dL_act_107 108 1 rfl rfl ?_
      refine q_iconst (v := nI 1) C dL_act_108 109 rfl (by decide) ?_
      refine q_iload_n C dL_act_109 110 3 rfl rfl ?_
      refine q_iload_n C dL_act_110 111 3 rfl rfl ?_
      refine q_bipush (v := nI 20) C dL_act_111 113 rfl (by decide) ?_
      refine q_ishr (v := w >>> 20) C dL_act_113 114 rfl (by rw [show nI 20 &&& 31 = (20 : Int32) by decide]) ?_
      refine q_iconst (v := nI 1) C dL_act_114 115 rfl (by decide) ?_
      refine q_iand (v := nI ((k_b20 w))) C dL_act_115 116 rfl (pk_and (w >>> 20) 1 (by decide)) ?_
      refine q_if_ne C dL_act_116 119 123 rfl (by decide) (q_eq0 (by omega)) (fun h116 => False.elim (by first | omega | simp_all)) (fun h116 => ?_)
      refine q_iconst (v := nI 5) C dL_act_119 120 rfl (by decide) ?_
      refine q_goto C dL_act_120 125 (by decide) ?_
      refine q_callS (n := 2) (rest := [.int (nI 1), .ref h0]) (Rr := [wX, wO, wA, wB, wL, wH]) C (c_L_low l hZ hI w 5 (by omega) (by omega)) gL_act_L_low rfl rfl rfl (by decide +kernel) B.1 ⟨Nat.le_of_ble_eq_true rfl, Nat.le_of_ble_eq_true rfl⟩ rfl rfl (Nat.le_of_ble_eq_true rfl) dL_act_125 ⟨(Nat.le_of_ble_eq_true rfl), (Nat.le_of_ble_eq_true rfl)⟩ [] [0, 1, 2, 3, 4, 5] (by decide : ([] ++ ([0, 1, 2, 3, 4, 5] : List Nat)).Perm (List.range 6)) rfl rfl 128 rfl (fun v0 R0 t0 ht0 hp0 => ?_)
      obtain ⟨rfl, rfl⟩ := hp0
      refine q_eqs (st' := [.int (nI (k_low w 5)), .int (nI 1), .ref h0]) rfl ?_
      refine q_eqR (Rs' := [wX, wO, wA, wB, wL, wH]) rfl ?_
      have hlw125 : k_low w 5 < 5 := k_low_lt (by omega)
      refine q_iadd (v := nI (k_low w 5 + 1)) C dL_act_128 129 rfl (q_nadd (by omega)) ?_
      refine q_eqs (st' := [.int (nI (k_idl w)), .ref h0]) (by rw [show k_idl w = k_low w 5 + 1 from by unfold k_idl; rw [if_pos (by omega), Nat.add_comm]]) ?_
      refine q_callV (k := 0) (ci := 5) (n := 1) (rest := []) (Rr := []) C rfl (k_isX_recv hX) rfl (c_X6_idle_b l hZ hI hG h0 aO aY aN hsn aT aK wX hX aB aL aS sc wO hO wA hA bx at0 wB hB ln wL hL sv wH hH (k_idl w) (k_idl_le w).1 (k_idl_le w).2) gL_act_X6_idle rfl rfl rfl (by decide +kernel) B.1 ⟨Nat.le_of_ble_eq_true rfl, Nat.le_of_ble_eq_true rfl⟩ rfl rfl (Nat.le_of_ble_eq_true rfl) dL_act_129 ⟨(Nat.le_of_ble_eq_true rfl), (Nat.le_of_ble_eq_true rfl)⟩ [0, 1, 2, 3, 4, 5] [] (by decide : ([0, 1, 2, 3, 4, 5] ++ ([] : List Nat)).Perm (List.range 6)) rfl rfl 132 rfl (fun v0 R0 t0 ht0 hp0 => ?_)
      obtain ⟨rfl, wO_129, hwO_129, wA_129, hwA_129, wB_129, hwB_129, wH_129, hwH_129, rfl⟩ := hp0
      refine q_eqs (st' := [.int (nI (k_cnt (k_bm bx at0 (-1)) (k_idl w)))]) rfl ?_
      refine q_eqR (Rs' := [wX, wO_129, wA_129, wB_129, wL, wH_129]) rfl ?_
      exact q_iret C B dL_act_132 rfl rfl (fun t0 ht0 => ⟨rfl, _, hwO_129, _, hwA_129, _, hwB_129, _, hwH_129, by first | rfl | simp⟩)

set_option maxHeartbeats 400000 in
set_option maxRecDepth 100000 in
theorem c_L_act_f0 (l : Launch) {D : va_G} {tys : List (ClassId × FieldType)} {Z : (Nat → Prop) → State → Heap → Prop} (hZ : q_St Z) {cI : ClassId} (hI : tys[0]? = some (cI, .int)) (hN : q_Ns Z) {cG : ClassId} (hG : tys[1]? = some (cG, .object "SortCases$State")) {tL tH : Nat} (hVs : q_Vs Z tL tH) (h0 : Nat) (aO : Nat) (aY : Nat) (aN : Nat) (hsn : Int32) (aT : Nat) (aK : Nat) (wX : va_W) (hX : k_isX cI h0 aO aY aN hsn aT aK wX) (aB : Nat) (aL : Nat) (aS : Nat) (sc : Nat → Int32) (wO : va_W) (hO : k_isO cI aO aB aL aS sc wO) (wA : va_W) (hA : k_isA cI aS sc wA) (bx : k_Bx) (at0 : Nat) (wB : va_W) (hB : k_isB cI aB bx at0 wB) (ln : List (Nat × Nat)) (wL : va_W) (hL : k_isL cI aL ln wL) (sv : List k_S) (wH : va_W) (hH : k_isH cG cI aY sv wH) (v : Int32) (w : Int32) (hIv : k_Iv (bx, at0, ln, sc)) (h2 : sc 2 = nI 0 ∨ sc 2 = nI 1) (hj : 8 ≤ k_jj v ∧ k_jj v < 10) (hl0 : ln.length = 0) : q_Ct l D tys Z yL_act wsL_act ({ frames := 9, cells := 0, slots := 0, locals := 282 } : Room) 0 0 [.ref h0, .int v, .int w] [wX, wO, wA, wB, wL, wH] (fun v0 R0 _ => v0 = some (.int (-9)) ∧ R0 = [wX, wO, wA, wB, wL, wH]) := by
  have hcI := hI
  have hcG := hG
  refine q_ct (cc := cL_act) (maxL := 6) (ret := (some .int)) (own := RL) (by decide) rfl hZ (Nat.le_of_ble_eq_true rfl) rfl ?_
  intro p9 e9 R s9 m9 args below meth c9 A Q C B
  have hts := C.2.2.2.2.1
  refine q_eqL (L' := [(0, .ref h0), (1, .int v), (2, .int w)]) rfl ?_
  have hll := hL.1.1
  have hok := hB.2.1
  have hcs := k_Cv_cs (S := (bx, at0, ln, sc)) hIv.2
  have hws := k_Cv_ws (S := (bx, at0, ln, sc)) hok hIv.2
  have hbw := k_b20_lt w
  have hlt := k_let_lt w
  have hwnl := k_wn_le bx ln sc (k_let w)
  have hj16 := k_jj_lt v
  refine q_iload_n C dL_act_0 1 2 rfl rfl ?_
  refine q_iload_n C dL_act_1 2 2 rfl rfl ?_
  refine q_bipush (v := nI 20) C dL_act_2 4 rfl (by decide) ?_
  refine q_ishr (v := w >>> 20) C dL_act_4 5 rfl (by rw [show nI 20 &&& 31 = (20 : Int32) by decide]) ?_
  refine q_iconst (v := nI 1) C dL_act_5 6 rfl (by decide) ?_
  refine q_iand (v := nI ((k_b20 w))) C dL_act_6 7 rfl (pk_and (w >>> 20) 1 (by decide)) ?_
  refine q_if_ne C dL_act_7 10 14 rfl (by decide) (q_eq0 (by omega)) (fun h7 => ?_) (fun h7 => ?_)
  · refine q_bipush (v := nI 12) C dL_act_14 16 rfl (by decide) ?_
    refine q_callS (n := 2) (rest := []) (Rr := [wX, wO, wA, wB, wL, wH]) C (c_L_low l hZ hI w 12 (by omega) (by omega)) gL_act_L_low rfl rfl rfl (by decide +kernel) B.1 ⟨Nat.le_of_ble_eq_true rfl, Nat.le_of_ble_eq_true rfl⟩ rfl rfl (Nat.le_of_ble_eq_true rfl) dL_act_16 ⟨(Nat.le_of_ble_eq_true rfl), (Nat.le_of_ble_eq_true rfl)⟩ [] [0, 1, 2, 3, 4, 5] (by decide : ([] ++ ([0, 1, 2, 3, 4, 5] : List Nat)).Perm (List.range 6)) rfl rfl 19 rfl (fun v0 R0 t0 ht0 hp0 => ?_)
    obtain ⟨rfl, rfl⟩ := hp0
    refine q_eqs (st' := [.int (nI (k_low w 12))]) rfl ?_
    refine q_eqR (Rs' := [wX, wO, wA, wB, wL, wH]) rfl ?_
    have hlw16 : k_low w 12 < 12 := k_low_lt (by omega)
    refine q_istore_n C dL_act_19 20 rfl [(3, .int (nI (k_low w 12))), (0, .ref h0), (1, .int v), (2, .int w)] (by decide) rfl ?_
    refine q_iload_n C dL_act_20 21 2 rfl rfl ?_
    refine q_bipush (v := nI 15) C dL_act_21 23 rfl (by decide) ?_
    refine q_iand (v := nI ((k_jj v))) C dL_act_23 24 rfl (pk_and v 4 (by decide)) ?_
    obtain ⟨j, hjv⟩ : ∃ j, j = k_jj v := ⟨_, rfl⟩
    refine q_eqs (st' := [.int (nI j)]) (by rw [hjv]) ?_
    rcases (by omega : j = 8 ∨ j = 9) with rfl | rfl
    · refine q_tableIn C dL_act_24 133 (by decide) (by decide) rfl (by decide) ?_
      refine q_aload_n C dL_act_133 134 1 rfl rfl ?_
      refine q_iconst (v := nI 0) C dL_act_134 135 rfl (by decide) ?_
      refine q_callV (k := 0) (ci := 5) (n := 1) (rest := []) (Rr := []) C rfl (k_isX_recv hX) rfl (c_X6_count_h l hZ hI hN hG h0 aO aY aN hsn aT aK wX hX aB aL aS sc wO hO wA hA bx at0 wB hB ln wL hL sv wH hH 0 (by omega) hcs hws) gL_act_X6_count rfl rfl rfl (by decide +kernel) B.1 ⟨Nat.le_of_ble_eq_true rfl, Nat.le_of_ble_eq_true rfl⟩ rfl rfl (Nat.le_of_ble_eq_true rfl) dL_act_135 ⟨(Nat.le_of_ble_eq_true rfl), (Nat.le_of_ble_eq_true rfl)⟩ [0, 1, 2, 3, 4, 5] [] (by decide : ([0, 1, 2, 3, 4, 5] ++ ([] : List Nat)).Perm (List.range 6)) rfl rfl 138 rfl (fun v0 R0 t0 ht0 hp0 => ?_)
      obtain ⟨rfl, rfl⟩ := hp0
      refine q_eqs (st' := [.int (k_tc bx at0 ln sc sv.length 0)]) rfl ?_
      refine q_eqR (Rs' := [wX, wO, wA, wB, wL, wH]) rfl ?_
      refine q_eqs (st' := [.int (nI ln.length)]) (by rw [show k_tc bx at0 ln sc sv.length 0 = nI ln.length from rfl]) ?_
      refine q_if_ne C dL_act_138 141 145 rfl (by decide) (q_eq0 (by omega)) (fun h138 => False.elim (by first | omega | simp_all)) (fun h138 => ?_)
      refine q_iconst (v := -1) C dL_act_141 142 rfl (by decide) ?_
      refine q_goto C dL_act_142 154 (by decide) ?_
      refine q_istore C dL_act_154 156 rfl [(4, .int (-1)), (3, .int (nI (k_low w 12))), (0, .ref h0), (1, .int v), (2, .int w)] (by decide) rfl ?_
      refine q_iload C dL_act_156 158 0 rfl rfl ?_
      refine q_if_lt C dL_act_158 161 171 rfl (by decide) Iff.rfl (fun h158 => ?_) (fun h158 => False.elim (h158 (by decide)))
      refine q_bipush (v := -9) C dL_act_171 173 rfl (by decide) ?_
      refine q_goto C dL_act_173 182 (by decide) ?_
      exact q_iret C B dL_act_182 rfl rfl (fun t0 ht0 => ⟨rfl, rfl⟩)
    · refine q_tableIn C dL_act_24 133 (by decide) (by decide) rfl (by decide) ?_
      refine q_aload_n C dL_act_133 134 1 rfl rfl ?_
      refine q_iconst (v := nI 0) C dL_act_134 135 rfl (by decide) ?_
      refine q_callV (k := 0) (ci := 5) (n := 1) (rest := []) (Rr := []) C rfl (k_isX_recv hX) rfl (c_X6_count_h l hZ hI hN hG h0 aO aY aN hsn aT aK wX hX aB aL aS sc wO hO wA hA bx at0 wB hB ln wL hL sv wH hH 0 (by omega) hcs hws) gL_act_X6_count rfl rfl rfl (by decide +kernel) B.1 ⟨Nat.le_of_ble_eq_true rfl, Nat.le_of_ble_eq_true rfl⟩ rfl rfl (Nat.le_of_ble_eq_true rfl) dL_act_135 ⟨(Nat.le_of_ble_eq_true rfl), (Nat.le_of_ble_eq_true rfl)⟩ [0, 1, 2, 3, 4, 5] [] (by decide : ([0, 1, 2, 3, 4, 5] ++ ([] : List Nat)).Perm (List.range 6)) rfl rfl 138 rfl (fun v0 R0 t0 ht0 hp0 => ?_)
      obtain ⟨rfl, rfl⟩ := hp0
      refine q_eqs (st' := [.int (k_tc bx at0 ln sc sv.length 0)]) rfl ?_
      refine q_eqR (Rs' := [wX, wO, wA, wB, wL, wH]) rfl ?_
      refine q_eqs (st' := [.int (nI ln.length)]) (by rw [show k_tc bx at0 ln sc sv.length 0 = nI ln.length from rfl]) ?_
      refine q_if_ne C dL_act_138 141 145 rfl (by decide) (q_eq0 (by omega)) (fun h138 => False.elim (by first | omega | simp_all)) (fun h138 => ?_)
      refine q_iconst (v := -1) C dL_act_141 142 rfl (by decide) ?_
      refine q_goto C dL_act_142 154 (by decide) ?_
      refine q_istore C dL_act_154 156 rfl [(4, .int (-1)), (3, .int (nI (k_low w 12))), (0, .ref h0), (1, .int v), (2, .int w)] (by decide) rfl ?_
      refine q_iload C dL_act_156 158 0 rfl rfl ?_
      refine q_if_lt C dL_act_158 161 171 rfl (by decide) Iff.rfl (fun h158 => ?_) (fun h158 => False.elim (h158 (by decide)))
      refine q_bipush (v := -9) C dL_act_171 173 rfl (by decide) ?_
      refine q_goto C dL_act_173 182 (by decide) ?_
      exact q_iret C B dL_act_182 rfl rfl (fun t0 ht0 => ⟨rfl, rfl⟩)
  · refine q_iconst (v := nI 4) C dL_act_10 11 rfl (by decide) ?_
    refine q_goto C dL_act_11 16 (by decide) ?_
    refine q_callS (n := 2) (rest := []) (Rr := [wX, wO, wA, wB, wL, wH]) C (c_L_low l hZ hI w 4 (by omega) (by omega)) gL_act_L_low rfl rfl rfl (by decide +kernel) B.1 ⟨Nat.le_of_ble_eq_true rfl, Nat.le_of_ble_eq_true rfl⟩ rfl rfl (Nat.le_of_ble_eq_true rfl) dL_act_16 ⟨(Nat.le_of_ble_eq_true rfl), (Nat.le_of_ble_eq_true rfl)⟩ [] [0, 1, 2, 3, 4, 5] (by decide : ([] ++ ([0, 1, 2, 3, 4, 5] : List Nat)).Perm (List.range 6)) rfl rfl 19 rfl (fun v0 R0 t0 ht0 hp0 => ?_)
    obtain ⟨rfl, rfl⟩ := hp0
    refine q_eqs (st' := [.int (nI (k_low w 4))]) rfl ?_
    refine q_eqR (Rs' := [wX, wO, wA, wB, wL, wH]) rfl ?_
    have hlw16 : k_low w 4 < 4 := k_low_lt (by omega)
    refine q_istore_n C dL_act_19 20 rfl [(3, .int (nI (k_low w 4))), (0, .ref h0), (1, .int v), (2, .int w)] (by decide) rfl ?_
    refine q_iload_n C dL_act_20 21 2 rfl rfl ?_
    refine q_bipush (v := nI 15) C dL_act_21 23 rfl (by decide) ?_
    refine q_iand (v := nI ((k_jj v))) C dL_act_23 24 rfl (pk_and v 4 (by decide)) ?_
    obtain ⟨j, hjv⟩ : ∃ j, j = k_jj v := ⟨_, rfl⟩
    refine q_eqs (st' := [.int (nI j)]) (by rw [hjv]) ?_
    rcases (by omega : j = 8 ∨ j = 9) with rfl | rfl
    · refine q_tableIn C dL_act_24 133 (by decide) (by decide) rfl (by decide) ?_
      refine q_aload_n C dL_act_133 134 1 rfl rfl ?_
      refine q_iconst (v := nI 0) C dL_act_134 135 rfl (by decide) ?_
      refine q_callV (k := 0) (ci := 5) (n := 1) (rest := []) (Rr := []) C rfl (k_isX_recv hX) rfl (c_X6_count_h l hZ hI hN hG h0 aO aY aN hsn aT aK wX hX aB aL aS sc wO hO wA hA bx at0 wB hB ln wL hL sv wH hH 0 (by omega) hcs hws) gL_act_X6_count rfl rfl rfl (by decide +kernel) B.1 ⟨Nat.le_of_ble_eq_true rfl, Nat.le_of_ble_eq_true rfl⟩ rfl rfl (Nat.le_of_ble_eq_true rfl) dL_act_135 ⟨(Nat.le_of_ble_eq_true rfl), (Nat.le_of_ble_eq_true rfl)⟩ [0, 1, 2, 3, 4, 5] [] (by decide : ([0, 1, 2, 3, 4, 5] ++ ([] : List Nat)).Perm (List.range 6)) rfl rfl 138 rfl (fun v0 R0 t0 ht0 hp0 => ?_)
      obtain ⟨rfl, rfl⟩ := hp0
      refine q_eqs (st' := [.int (k_tc bx at0 ln sc sv.length 0)]) rfl ?_
      refine q_eqR (Rs' := [wX, wO, wA, wB, wL, wH]) rfl ?_
      refine q_eqs (st' := [.int (nI ln.length)]) (by rw [show k_tc bx at0 ln sc sv.length 0 = nI ln.length from rfl]) ?_
      refine q_if_ne C dL_act_138 141 145 rfl (by decide) (q_eq0 (by omega)) (fun h138 => False.elim (by first | omega | simp_all)) (fun h138 => ?_)
      refine q_iconst (v := -1) C dL_act_141 142 rfl (by decide) ?_
      refine q_goto C dL_act_142 154 (by decide) ?_
      refine q_istore C dL_act_154 156 rfl [(4, .int (-1)), (3, .int (nI (k_low w 4))), (0, .ref h0), (1, .int v), (2, .int w)] (by decide) rfl ?_
      refine q_iload C dL_act_156 158 0 rfl rfl ?_
      refine q_if_lt C dL_act_158 161 171 rfl (by decide) Iff.rfl (fun h158 => ?_) (fun h158 => False.elim (h158 (by decide)))
      refine q_bipush (v := -9) C dL_act_171 173 rfl (by decide) ?_
      refine q_goto C dL_act_173 182 (by decide) ?_
      exact q_iret C B dL_act_182 rfl rfl (fun t0 ht0 => ⟨rfl, rfl⟩)
    · refine q_tableIn C dL_act_24 133 (by decide) (by decide) rfl (by decide) ?_
      refine q_aload_n C dL_act_133 134 1 rfl rfl ?_
      refine q_iconst (v := nI 0) C dL_act_134 135 rfl (by decide) ?_
      refine q_callV (k := 0) (ci := 5) (n := 1) (rest := []) (Rr := []) C rfl (k_isX_recv hX) rfl (c_X6_count_h l hZ hI hN hG h0 aO aY aN hsn aT aK wX hX aB aL aS sc wO hO wA hA bx at0 wB hB ln wL hL sv wH hH 0 (by omega) hcs hws) gL_act_X6_count rfl rfl rfl (by decide +kernel) B.1 ⟨Nat.le_of_ble_eq_true rfl, Nat.le_of_ble_eq_true rfl⟩ rfl rfl (Nat.le_of_ble_eq_true rfl) dL_act_135 ⟨(Nat.le_of_ble_eq_true rfl), (Nat.le_of_ble_eq_true rfl)⟩ [0, 1, 2, 3, 4, 5] [] (by decide : ([0, 1, 2, 3, 4, 5] ++ ([] : List Nat)).Perm (List.range 6)) rfl rfl 138 rfl (fun v0 R0 t0 ht0 hp0 => ?_)
      obtain ⟨rfl, rfl⟩ := hp0
      refine q_eqs (st' := [.int (k_tc bx at0 ln sc sv.length 0)]) rfl ?_
      refine q_eqR (Rs' := [wX, wO, wA, wB, wL, wH]) rfl ?_
      refine q_eqs (st' := [.int (nI ln.length)]) (by rw [show k_tc bx at0 ln sc sv.length 0 = nI ln.length from rfl]) ?_
      refine q_if_ne C dL_act_138 141 145 rfl (by decide) (q_eq0 (by omega)) (fun h138 => False.elim (by first | omega | simp_all)) (fun h138 => ?_)
      refine q_iconst (v := -1) C dL_act_141 142 rfl (by decide) ?_
      refine q_goto C dL_act_142 154 (by decide) ?_
      refine q_istore C dL_act_154 156 rfl [(4, .int (-1)), (3, .int (nI (k_low w 4))), (0, .ref h0), (1, .int v), (2, .int w)] (by decide) rfl ?_
      refine q_iload C dL_act_156 158 0 rfl rfl ?_
      refine q_if_lt C dL_act_158 161 171 rfl (by decide) Iff.rfl (fun h158 => ?_) (fun h158 => False.elim (h158 (by decide)))
      refine q_bipush (v := -9) C dL_act_171 173 rfl (by decide) ?_
      refine q_goto C dL_act_173 182 (by decide) ?_
      exact q_iret C B dL_act_182 rfl rfl (fun t0 ht0 => ⟨rfl, rfl⟩)

set_option maxHeartbeats 400000 in
set_option maxRecDepth 100000 in
theorem c_L_act_f1 (l : Launch) {D : va_G} {tys : List (ClassId × FieldType)} {Z : (Nat → Prop) → State → Heap → Prop} (hZ : q_St Z) {cI : ClassId} (hI : tys[0]? = some (cI, .int)) (hN : q_Ns Z) {cG : ClassId} (hG : tys[1]? = some (cG, .object "SortCases$State")) {tL tH : Nat} (hVs : q_Vs Z tL tH) (h0 : Nat) (aO : Nat) (aY : Nat) (aN : Nat) (hsn : Int32) (aT : Nat) (aK : Nat) (wX : va_W) (hX : k_isX cI h0 aO aY aN hsn aT aK wX) (aB : Nat) (aL : Nat) (aS : Nat) (sc : Nat → Int32) (wO : va_W) (hO : k_isO cI aO aB aL aS sc wO) (wA : va_W) (hA : k_isA cI aS sc wA) (bx : k_Bx) (at0 : Nat) (wB : va_W) (hB : k_isB cI aB bx at0 wB) (ln : List (Nat × Nat)) (wL : va_W) (hL : k_isL cI aL ln wL) (sv : List k_S) (wH : va_W) (hH : k_isH cG cI aY sv wH) (v : Int32) (w : Int32) (hIv : k_Iv (bx, at0, ln, sc)) (h2 : sc 2 = nI 0 ∨ sc 2 = nI 1) (hj : 8 ≤ k_jj v ∧ k_jj v < 10) (hl0 : 0 < ln.length) (hw : ¬ k_wc bx ln sc (k_low w ln.length) = 0) : q_Ct l D tys Z yL_act wsL_act ({ frames := 9, cells := 0, slots := 0, locals := 282 } : Room) 0 0 [.ref h0, .int v, .int w] [wX, wO, wA, wB, wL, wH] (fun v0 R0 _ => v0 = some (.int (-9)) ∧ R0 = [wX, wO, wA, wB, wL, wH]) := by
  have hcI := hI
  have hcG := hG
  refine q_ct (cc := cL_act) (maxL := 6) (ret := (some .int)) (own := RL) (by decide) rfl hZ (Nat.le_of_ble_eq_true rfl) rfl ?_
  intro p9 e9 R s9 m9 args below meth c9 A Q C B
  have hts := C.2.2.2.2.1
  refine q_eqL (L' := [(0, .ref h0), (1, .int v), (2, .int w)]) rfl ?_
  have hll := hL.1.1
  have hok := hB.2.1
  have hcs := k_Cv_cs (S := (bx, at0, ln, sc)) hIv.2
  have hws := k_Cv_ws (S := (bx, at0, ln, sc)) hok hIv.2
  have hbw := k_b20_lt w
  have hlt := k_let_lt w
  have hwnl := k_wn_le bx ln sc (k_let w)
  have hj16 := k_jj_lt v
  refine q_iload_n C dL_act_0 1 2 rfl rfl ?_
  refine q_iload_n C dL_act_1 2 2 rfl rfl ?_
  refine q_bipush (v := nI 20) C dL_act_2 4 rfl (by decide) ?_
  refine q_ishr (v := w >>> 20) C dL_act_4 5 rfl (by rw [show nI 20 &&& 31 = (20 : Int32) by decide]) ?_
  refine q_iconst (v := nI 1) C dL_act_5 6 rfl (by decide) ?_
  refine q_iand (v := nI ((k_b20 w))) C dL_act_6 7 rfl (pk_and (w >>> 20) 1 (by decide)) ?_
  refine q_if_ne C dL_act_7 10 14 rfl (by decide) (q_eq0 (by omega)) (fun h7 => ?_) (fun h7 => ?_)
  · refine q_bipush (v := nI 12) C dL_act_14 16 rfl (by decide) ?_
    refine q_callS (n := 2) (rest := []) (Rr := [wX, wO, wA, wB, wL, wH]) C (c_L_low l hZ hI w 12 (by omega) (by omega)) gL_act_L_low rfl rfl rfl (by decide +kernel) B.1 ⟨Nat.le_of_ble_eq_true rfl, Nat.le_of_ble_eq_true rfl⟩ rfl rfl (Nat.le_of_ble_eq_true rfl) dL_act_16 ⟨(Nat.le_of_ble_eq_true rfl), (Nat.le_of_ble_eq_true rfl)⟩ [] [0, 1, 2, 3, 4, 5] (by decide : ([] ++ ([0, 1, 2, 3, 4, 5] : List Nat)).Perm (List.range 6)) rfl rfl 19 rfl (fun v0 R0 t0 ht0 hp0 => ?_)
    obtain ⟨rfl, rfl⟩ := hp0
    refine q_eqs (st' := [.int (nI (k_low w 12))]) rfl ?_
    refine q_eqR (Rs' := [wX, wO, wA, wB, wL, wH]) rfl ?_
    have hlw16 : k_low w 12 < 12 := k_low_lt (by omega)
    refine q_istore_n C dL_act_19 20 rfl [(3, .int (nI (k_low w 12))), (0, .ref h0), (1, .int v), (2, .int w)] (by decide) rfl ?_
    refine q_iload_n C dL_act_20 21 2 rfl rfl ?_
    refine q_bipush (v := nI 15) C dL_act_21 23 rfl (by decide) ?_
    refine q_iand (v := nI ((k_jj v))) C dL_act_23 24 rfl (pk_and v 4 (by decide)) ?_
    obtain ⟨j, hjv⟩ : ∃ j, j = k_jj v := ⟨_, rfl⟩
    refine q_eqs (st' := [.int (nI j)]) (by rw [hjv]) ?_
    rcases (by omega : j = 8 ∨ j = 9) with rfl | rfl
    · refine q_tableIn C dL_act_24 133 (by decide) (by decide) rfl (by decide) ?_
      refine q_aload_n C dL_act_133 134 1 rfl rfl ?_
      refine q_iconst (v := nI 0) C dL_act_134 135 rfl (by decide) ?_
      refine q_callV (k := 0) (ci := 5) (n := 1) (rest := []) (Rr := []) C rfl (k_isX_recv hX) rfl (c_X6_count_h l hZ hI hN hG h0 aO aY aN hsn aT aK wX hX aB aL aS sc wO hO wA hA bx at0 wB hB ln wL hL sv wH hH 0 (by omega) hcs hws) gL_act_X6_count rfl rfl rfl (by decide +kernel) B.1 ⟨Nat.le_of_ble_eq_true rfl, Nat.le_of_ble_eq_true rfl⟩ rfl rfl (Nat.le_of_ble_eq_true rfl) dL_act_135 ⟨(Nat.le_of_ble_eq_true rfl), (Nat.le_of_ble_eq_true rfl)⟩ [0, 1, 2, 3, 4, 5] [] (by decide : ([0, 1, 2, 3, 4, 5] ++ ([] : List Nat)).Perm (List.range 6)) rfl rfl 138 rfl (fun v0 R0 t0 ht0 hp0 => ?_)
      obtain ⟨rfl, rfl⟩ := hp0
      refine q_eqs (st' := [.int (k_tc bx at0 ln sc sv.length 0)]) rfl ?_
      refine q_eqR (Rs' := [wX, wO, wA, wB, wL, wH]) rfl ?_
      refine q_eqs (st' := [.int (nI ln.length)]) (by rw [show k_tc bx at0 ln sc sv.length 0 = nI ln.length from rfl]) ?_
      refine q_if_ne C dL_act_138 141 145 rfl (by decide) (q_eq0 (by omega)) (fun h138 => ?_) (fun h138 => False.elim (by first | omega | simp_all))
      refine q_iload_n C dL_act_145 146 3 rfl rfl ?_
      refine q_aload_n C dL_act_146 147 1 rfl rfl ?_
      refine q_iconst (v := nI 0) C dL_act_147 148 rfl (by decide) ?_
      refine q_callV (k := 0) (ci := 5) (n := 1) (rest := [.int w]) (Rr := []) C rfl (k_isX_recv hX) rfl (c_X6_count_h l hZ hI hN hG h0 aO aY aN hsn aT aK wX hX aB aL aS sc wO hO wA hA bx at0 wB hB ln wL hL sv wH hH 0 (by omega) hcs hws) gL_act_X6_count rfl rfl rfl (by decide +kernel) B.1 ⟨Nat.le_of_ble_eq_true rfl, Nat.le_of_ble_eq_true rfl⟩ rfl rfl (Nat.le_of_ble_eq_true rfl) dL_act_148 ⟨(Nat.le_of_ble_eq_true rfl), (Nat.le_of_ble_eq_true rfl)⟩ [0, 1, 2, 3, 4, 5] [] (by decide : ([0, 1, 2, 3, 4, 5] ++ ([] : List Nat)).Perm (List.range 6)) rfl rfl 151 rfl (fun v0 R0 t0 ht0 hp0 => ?_)
      obtain ⟨rfl, rfl⟩ := hp0
      refine q_eqs (st' := [.int (k_tc bx at0 ln sc sv.length 0), .int w]) rfl ?_
      refine q_eqR (Rs' := [wX, wO, wA, wB, wL, wH]) rfl ?_
      refine q_eqs (st' := [.int (nI ln.length), .int w]) (by rw [show k_tc bx at0 ln sc sv.length 0 = nI ln.length from rfl]) ?_
      refine q_callS (n := 2) (rest := []) (Rr := [wX, wO, wA, wB, wL, wH]) C (c_L_low l hZ hI w ln.length (by omega) (by omega)) gL_act_L_low rfl rfl rfl (by decide +kernel) B.1 ⟨Nat.le_of_ble_eq_true rfl, Nat.le_of_ble_eq_true rfl⟩ rfl rfl (Nat.le_of_ble_eq_true rfl) dL_act_151 ⟨(Nat.le_of_ble_eq_true rfl), (Nat.le_of_ble_eq_true rfl)⟩ [] [0, 1, 2, 3, 4, 5] (by decide : ([] ++ ([0, 1, 2, 3, 4, 5] : List Nat)).Perm (List.range 6)) rfl rfl 154 rfl (fun v0 R0 t0 ht0 hp0 => ?_)
      obtain ⟨rfl, rfl⟩ := hp0
      refine q_eqs (st' := [.int (nI (k_low w ln.length))]) rfl ?_
      refine q_eqR (Rs' := [wX, wO, wA, wB, wL, wH]) rfl ?_
      have hlw151 : k_low w ln.length < ln.length := k_low_lt (by omega)
      refine q_istore C dL_act_154 156 rfl [(4, .int (nI (k_low w ln.length))), (3, .int (nI (k_low w 12))), (0, .ref h0), (1, .int v), (2, .int w)] (by decide) rfl ?_
      refine q_iload C dL_act_156 158 0 rfl rfl ?_
      refine q_if_lt C dL_act_158 161 171 rfl (by decide) (q_lt0 (by omega)) (fun h158 => False.elim (by first | omega | simp_all)) (fun h158 => ?_)
      refine q_aload_n C dL_act_161 162 2 rfl rfl ?_
      refine q_iload C dL_act_162 164 0 rfl rfl ?_
      refine q_iconst (v := nI 3) C dL_act_164 165 rfl (by decide) ?_
      refine q_callV (k := 0) (ci := 5) (n := 2) (rest := []) (Rr := [wH]) C rfl (k_isX_recv hX) rfl (c_X6_line_c l hZ hI hN h0 aO aY aN hsn aT aK wX hX aB aL aS sc wO hO wA hA bx at0 wB hB ln wL hL (k_low w ln.length) 3 (by omega) (k_has_of hL.1.1 (by omega)) (by omega)) gL_act_X6_line rfl rfl rfl (by decide +kernel) B.1 ⟨Nat.le_of_ble_eq_true rfl, Nat.le_of_ble_eq_true rfl⟩ rfl rfl (Nat.le_of_ble_eq_true rfl) dL_act_165 ⟨(Nat.le_of_ble_eq_true rfl), (Nat.le_of_ble_eq_true rfl)⟩ [0, 1, 2, 3, 4] [5] (by decide : ([0, 1, 2, 3, 4] ++ ([5] : List Nat)).Perm (List.range 6)) rfl rfl 168 rfl (fun v0 R0 t0 ht0 hp0 => ?_)
      obtain ⟨rfl, rfl⟩ := hp0
      refine q_eqs (st' := [.int (k_tp bx ln sc (k_low w ln.length) 3)]) rfl ?_
      refine q_eqR (Rs' := [wX, wO, wA, wB, wL, wH]) rfl ?_
      have hwcl := k_wc_le bx ln sc (k_low w ln.length)
      refine q_eqs (st' := [.int (nI (k_wc bx ln sc (k_low w ln.length)))]) (by rw [show k_tp bx ln sc (k_low w ln.length) 3 = nI (k_wc bx ln sc (k_low w ln.length)) from rfl]) ?_
      refine q_if_eq C dL_act_168 171 176 rfl (by decide) (q_eq0 (by omega)) (fun h168 => False.elim (by first | omega | simp_all)) (fun h168 => ?_)
      refine q_bipush (v := -9) C dL_act_171 173 rfl (by decide) ?_
      refine q_goto C dL_act_173 182 (by decide) ?_
      exact q_iret C B dL_act_182 rfl rfl (fun t0 ht0 => ⟨rfl, rfl⟩)
    · refine q_tableIn C dL_act_24 133 (by decide) (by decide) rfl (by decide) ?_
      refine q_aload_n C dL_act_133 134 1 rfl rfl ?_
      refine q_iconst (v := nI 0) C dL_act_134 135 rfl (by decide) ?_
      refine q_callV (k := 0) (ci := 5) (n := 1) (rest := []) (Rr := []) C rfl (k_isX_recv hX) rfl (c_X6_count_h l hZ hI hN hG h0 aO aY aN hsn aT aK wX hX aB aL aS sc wO hO wA hA bx at0 wB hB ln wL hL sv wH hH 0 (by omega) hcs hws) gL_act_X6_count rfl rfl rfl (by decide +kernel) B.1 ⟨Nat.le_of_ble_eq_true rfl, Nat.le_of_ble_eq_true rfl⟩ rfl rfl (Nat.le_of_ble_eq_true rfl) dL_act_135 ⟨(Nat.le_of_ble_eq_true rfl), (Nat.le_of_ble_eq_true rfl)⟩ [0, 1, 2, 3, 4, 5] [] (by decide : ([0, 1, 2, 3, 4, 5] ++ ([] : List Nat)).Perm (List.range 6)) rfl rfl 138 rfl (fun v0 R0 t0 ht0 hp0 => ?_)
      obtain ⟨rfl, rfl⟩ := hp0
      refine q_eqs (st' := [.int (k_tc bx at0 ln sc sv.length 0)]) rfl ?_
      refine q_eqR (Rs' := [wX, wO, wA, wB, wL, wH]) rfl ?_
      refine q_eqs (st' := [.int (nI ln.length)]) (by rw [show k_tc bx at0 ln sc sv.length 0 = nI ln.length from rfl]) ?_
      refine q_if_ne C dL_act_138 141 145 rfl (by decide) (q_eq0 (by omega)) (fun h138 => ?_) (fun h138 => False.elim (by first | omega | simp_all))
      refine q_iload_n C dL_act_145 146 3 rfl rfl ?_
      refine q_aload_n C dL_act_146 147 1 rfl rfl ?_
      refine q_iconst (v := nI 0) C dL_act_147 148 rfl (by decide) ?_
      refine q_callV (k := 0) (ci := 5) (n := 1) (rest := [.int w]) (Rr := []) C rfl (k_isX_recv hX) rfl (c_X6_count_h l hZ hI hN hG h0 aO aY aN hsn aT aK wX hX aB aL aS sc wO hO wA hA bx at0 wB hB ln wL hL sv wH hH 0 (by omega) hcs hws) gL_act_X6_count rfl rfl rfl (by decide +kernel) B.1 ⟨Nat.le_of_ble_eq_true rfl, Nat.le_of_ble_eq_true rfl⟩ rfl rfl (Nat.le_of_ble_eq_true rfl) dL_act_148 ⟨(Nat.le_of_ble_eq_true rfl), (Nat.le_of_ble_eq_true rfl)⟩ [0, 1, 2, 3, 4, 5] [] (by decide : ([0, 1, 2, 3, 4, 5] ++ ([] : List Nat)).Perm (List.range 6)) rfl rfl 151 rfl (fun v0 R0 t0 ht0 hp0 => ?_)
      obtain ⟨rfl, rfl⟩ := hp0
      refine q_eqs (st' := [.int (k_tc bx at0 ln sc sv.length 0), .int w]) rfl ?_
      refine q_eqR (Rs' := [wX, wO, wA, wB, wL, wH]) rfl ?_
      refine q_eqs (st' := [.int (nI ln.length), .int w]) (by rw [show k_tc bx at0 ln sc sv.length 0 = nI ln.length from rfl]) ?_
      refine q_callS (n := 2) (rest := []) (Rr := [wX, wO, wA, wB, wL, wH]) C (c_L_low l hZ hI w ln.length (by omega) (by omega)) gL_act_L_low rfl rfl rfl (by decide +kernel) B.1 ⟨Nat.le_of_ble_eq_true rfl, Nat.le_of_ble_eq_true rfl⟩ rfl rfl (Nat.le_of_ble_eq_true rfl) dL_act_151 ⟨(Nat.le_of_ble_eq_true rfl), (Nat.le_of_ble_eq_true rfl)⟩ [] [0, 1, 2, 3, 4, 5] (by decide : ([] ++ ([0, 1, 2, 3, 4, 5] : List Nat)).Perm (List.range 6)) rfl rfl 154 rfl (fun v0 R0 t0 ht0 hp0 => ?_)
      obtain ⟨rfl, rfl⟩ := hp0
      refine q_eqs (st' := [.int (nI (k_low w ln.length))]) rfl ?_
      refine q_eqR (Rs' := [wX, wO, wA, wB, wL, wH]) rfl ?_
      have hlw151 : k_low w ln.length < ln.length := k_low_lt (by omega)
      refine q_istore C dL_act_154 156 rfl [(4, .int (nI (k_low w ln.length))), (3, .int (nI (k_low w 12))), (0, .ref h0), (1, .int v), (2, .int w)] (by decide) rfl ?_
      refine q_iload C dL_act_156 158 0 rfl rfl ?_
      refine q_if_lt C dL_act_158 161 171 rfl (by decide) (q_lt0 (by omega)) (fun h158 => False.elim (by first | omega | simp_all)) (fun h158 => ?_)
      refine q_aload_n C dL_act_161 162 2 rfl rfl ?_
      refine q_iload C dL_act_162 164 0 rfl rfl ?_
      refine q_iconst (v := nI 3) C dL_act_164 165 rfl (by decide) ?_
      refine q_callV (k := 0) (ci := 5) (n := 2) (rest := []) (Rr := [wH]) C rfl (k_isX_recv hX) rfl (c_X6_line_c l hZ hI hN h0 aO aY aN hsn aT aK wX hX aB aL aS sc wO hO wA hA bx at0 wB hB ln wL hL (k_low w ln.length) 3 (by omega) (k_has_of hL.1.1 (by omega)) (by omega)) gL_act_X6_line rfl rfl rfl (by decide +kernel) B.1 ⟨Nat.le_of_ble_eq_true rfl, Nat.le_of_ble_eq_true rfl⟩ rfl rfl (Nat.le_of_ble_eq_true rfl) dL_act_165 ⟨(Nat.le_of_ble_eq_true rfl), (Nat.le_of_ble_eq_true rfl)⟩ [0, 1, 2, 3, 4] [5] (by decide : ([0, 1, 2, 3, 4] ++ ([5] : List Nat)).Perm (List.range 6)) rfl rfl 168 rfl (fun v0 R0 t0 ht0 hp0 => ?_)
      obtain ⟨rfl, rfl⟩ := hp0
      refine q_eqs (st' := [.int (k_tp bx ln sc (k_low w ln.length) 3)]) rfl ?_
      refine q_eqR (Rs' := [wX, wO, wA, wB, wL, wH]) rfl ?_
      have hwcl := k_wc_le bx ln sc (k_low w ln.length)
      refine q_eqs (st' := [.int (nI (k_wc bx ln sc (k_low w ln.length)))]) (by rw [show k_tp bx ln sc (k_low w ln.length) 3 = nI (k_wc bx ln sc (k_low w ln.length)) from rfl]) ?_
      refine q_if_eq C dL_act_168 171 176 rfl (by decide) (q_eq0 (by omega)) (fun h168 => False.elim (by first | omega | simp_all)) (fun h168 => ?_)
      refine q_bipush (v := -9) C dL_act_171 173 rfl (by decide) ?_
      refine q_goto C dL_act_173 182 (by decide) ?_
      exact q_iret C B dL_act_182 rfl rfl (fun t0 ht0 => ⟨rfl, rfl⟩)
  · refine q_iconst (v := nI 4) C dL_act_10 11 rfl (by decide) ?_
    refine q_goto C dL_act_11 16 (by decide) ?_
    refine q_callS (n := 2) (rest := []) (Rr := [wX, wO, wA, wB, wL, wH]) C (c_L_low l hZ hI w 4 (by omega) (by omega)) gL_act_L_low rfl rfl rfl (by decide +kernel) B.1 ⟨Nat.le_of_ble_eq_true rfl, Nat.le_of_ble_eq_true rfl⟩ rfl rfl (Nat.le_of_ble_eq_true rfl) dL_act_16 ⟨(Nat.le_of_ble_eq_true rfl), (Nat.le_of_ble_eq_true rfl)⟩ [] [0, 1, 2, 3, 4, 5] (by decide : ([] ++ ([0, 1, 2, 3, 4, 5] : List Nat)).Perm (List.range 6)) rfl rfl 19 rfl (fun v0 R0 t0 ht0 hp0 => ?_)
    obtain ⟨rfl, rfl⟩ := hp0
    refine q_eqs (st' := [.int (nI (k_low w 4))]) rfl ?_
    refine q_eqR (Rs' := [wX, wO, wA, wB, wL, wH]) rfl ?_
    have hlw16 : k_low w 4 < 4 := k_low_lt (by omega)
    refine q_istore_n C dL_act_19 20 rfl [(3, .int (nI (k_low w 4))), (0, .ref h0), (1, .int v), (2, .int w)] (by decide) rfl ?_
    refine q_iload_n C dL_act_20 21 2 rfl rfl ?_
    refine q_bipush (v := nI 15) C dL_act_21 23 rfl (by decide) ?_
    refine q_iand (v := nI ((k_jj v))) C dL_act_23 24 rfl (pk_and v 4 (by decide)) ?_
    obtain ⟨j, hjv⟩ : ∃ j, j = k_jj v := ⟨_, rfl⟩
    refine q_eqs (st' := [.int (nI j)]) (by rw [hjv]) ?_
    rcases (by omega : j = 8 ∨ j = 9) with rfl | rfl
    · refine q_tableIn C dL_act_24 133 (by decide) (by decide) rfl (by decide) ?_
      refine q_aload_n C dL_act_133 134 1 rfl rfl ?_
      refine q_iconst (v := nI 0) C dL_act_134 135 rfl (by decide) ?_
      refine q_callV (k := 0) (ci := 5) (n := 1) (rest := []) (Rr := []) C rfl (k_isX_recv hX) rfl (c_X6_count_h l hZ hI hN hG h0 aO aY aN hsn aT aK wX hX aB aL aS sc wO hO wA hA bx at0 wB hB ln wL hL sv wH hH 0 (by omega) hcs hws) gL_act_X6_count rfl rfl rfl (by decide +kernel) B.1 ⟨Nat.le_of_ble_eq_true rfl, Nat.le_of_ble_eq_true rfl⟩ rfl rfl (Nat.le_of_ble_eq_true rfl) dL_act_135 ⟨(Nat.le_of_ble_eq_true rfl), (Nat.le_of_ble_eq_true rfl)⟩ [0, 1, 2, 3, 4, 5] [] (by decide : ([0, 1, 2, 3, 4, 5] ++ ([] : List Nat)).Perm (List.range 6)) rfl rfl 138 rfl (fun v0 R0 t0 ht0 hp0 => ?_)
      obtain ⟨rfl, rfl⟩ := hp0
      refine q_eqs (st' := [.int (k_tc bx at0 ln sc sv.length 0)]) rfl ?_
      refine q_eqR (Rs' := [wX, wO, wA, wB, wL, wH]) rfl ?_
      refine q_eqs (st' := [.int (nI ln.length)]) (by rw [show k_tc bx at0 ln sc sv.length 0 = nI ln.length from rfl]) ?_
      refine q_if_ne C dL_act_138 141 145 rfl (by decide) (q_eq0 (by omega)) (fun h138 => ?_) (fun h138 => False.elim (by first | omega | simp_all))
      refine q_iload_n C dL_act_145 146 3 rfl rfl ?_
      refine q_aload_n C dL_act_146 147 1 rfl rfl ?_
      refine q_iconst (v := nI 0) C dL_act_147 148 rfl (by decide) ?_
      refine q_callV (k := 0) (ci := 5) (n := 1) (rest := [.int w]) (Rr := []) C rfl (k_isX_recv hX) rfl (c_X6_count_h l hZ hI hN hG h0 aO aY aN hsn aT aK wX hX aB aL aS sc wO hO wA hA bx at0 wB hB ln wL hL sv wH hH 0 (by omega) hcs hws) gL_act_X6_count rfl rfl rfl (by decide +kernel) B.1 ⟨Nat.le_of_ble_eq_true rfl, Nat.le_of_ble_eq_true rfl⟩ rfl rfl (Nat.le_of_ble_eq_true rfl) dL_act_148 ⟨(Nat.le_of_ble_eq_true rfl), (Nat.le_of_ble_eq_true rfl)⟩ [0, 1, 2, 3, 4, 5] [] (by decide : ([0, 1, 2, 3, 4, 5] ++ ([] : List Nat)).Perm (List.range 6)) rfl rfl 151 rfl (fun v0 R0 t0 ht0 hp0 => ?_)
      obtain ⟨rfl, rfl⟩ := hp0
      refine q_eqs (st' := [.int (k_tc bx at0 ln sc sv.length 0), .int w]) rfl ?_
      refine q_eqR (Rs' := [wX, wO, wA, wB, wL, wH]) rfl ?_
      refine q_eqs (st' := [.int (nI ln.length), .int w]) (by rw [show k_tc bx at0 ln sc sv.length 0 = nI ln.length from rfl]) ?_
      refine q_callS (n := 2) (rest := []) (Rr := [wX, wO, wA, wB, wL, wH]) C (c_L_low l hZ hI w ln.length (by omega) (by omega)) gL_act_L_low rfl rfl rfl (by decide +kernel) B.1 ⟨Nat.le_of_ble_eq_true rfl, Nat.le_of_ble_eq_true rfl⟩ rfl rfl (Nat.le_of_ble_eq_true rfl) dL_act_151 ⟨(Nat.le_of_ble_eq_true rfl), (Nat.le_of_ble_eq_true rfl)⟩ [] [0, 1, 2, 3, 4, 5] (by decide : ([] ++ ([0, 1, 2, 3, 4, 5] : List Nat)).Perm (List.range 6)) rfl rfl 154 rfl (fun v0 R0 t0 ht0 hp0 => ?_)
      obtain ⟨rfl, rfl⟩ := hp0
      refine q_eqs (st' := [.int (nI (k_low w ln.length))]) rfl ?_
      refine q_eqR (Rs' := [wX, wO, wA, wB, wL, wH]) rfl ?_
      have hlw151 : k_low w ln.length < ln.length := k_low_lt (by omega)
      refine q_istore C dL_act_154 156 rfl [(4, .int (nI (k_low w ln.length))), (3, .int (nI (k_low w 4))), (0, .ref h0), (1, .int v), (2, .int w)] (by decide) rfl ?_
      refine q_iload C dL_act_156 158 0 rfl rfl ?_
      refine q_if_lt C dL_act_158 161 171 rfl (by decide) (q_lt0 (by omega)) (fun h158 => False.elim (by first | omega | simp_all)) (fun h158 => ?_)
      refine q_aload_n C dL_act_161 162 2 rfl rfl ?_
      refine q_iload C dL_act_162 164 0 rfl rfl ?_
      refine q_iconst (v := nI 3) C dL_act_164 165 rfl (by decide) ?_
      refine q_callV (k := 0) (ci := 5) (n := 2) (rest := []) (Rr := [wH]) C rfl (k_isX_recv hX) rfl (c_X6_line_c l hZ hI hN h0 aO aY aN hsn aT aK wX hX aB aL aS sc wO hO wA hA bx at0 wB hB ln wL hL (k_low w ln.length) 3 (by omega) (k_has_of hL.1.1 (by omega)) (by omega)) gL_act_X6_line rfl rfl rfl (by decide +kernel) B.1 ⟨Nat.le_of_ble_eq_true rfl, Nat.le_of_ble_eq_true rfl⟩ rfl rfl (Nat.le_of_ble_eq_true rfl) dL_act_165 ⟨(Nat.le_of_ble_eq_true rfl), (Nat.le_of_ble_eq_true rfl)⟩ [0, 1, 2, 3, 4] [5] (by decide : ([0, 1, 2, 3, 4] ++ ([5] : List Nat)).Perm (List.range 6)) rfl rfl 168 rfl (fun v0 R0 t0 ht0 hp0 => ?_)
      obtain ⟨rfl, rfl⟩ := hp0
      refine q_eqs (st' := [.int (k_tp bx ln sc (k_low w ln.length) 3)]) rfl ?_
      refine q_eqR (Rs' := [wX, wO, wA, wB, wL, wH]) rfl ?_
      have hwcl := k_wc_le bx ln sc (k_low w ln.length)
      refine q_eqs (st' := [.int (nI (k_wc bx ln sc (k_low w ln.length)))]) (by rw [show k_tp bx ln sc (k_low w ln.length) 3 = nI (k_wc bx ln sc (k_low w ln.length)) from rfl]) ?_
      refine q_if_eq C dL_act_168 171 176 rfl (by decide) (q_eq0 (by omega)) (fun h168 => False.elim (by first | omega | simp_all)) (fun h168 => ?_)
      refine q_bipush (v := -9) C dL_act_171 173 rfl (by decide) ?_
      refine q_goto C dL_act_173 182 (by decide) ?_
      exact q_iret C B dL_act_182 rfl rfl (fun t0 ht0 => ⟨rfl, rfl⟩)
    · refine q_tableIn C dL_act_24 133 (by decide) (by decide) rfl (by decide) ?_
      refine q_aload_n C dL_act_133 134 1 rfl rfl ?_
      refine q_iconst (v := nI 0) C dL_act_134 135 rfl (by decide) ?_
      refine q_callV (k := 0) (ci := 5) (n := 1) (rest := []) (Rr := []) C rfl (k_isX_recv hX) rfl (c_X6_count_h l hZ hI hN hG h0 aO aY aN hsn aT aK wX hX aB aL aS sc wO hO wA hA bx at0 wB hB ln wL hL sv wH hH 0 (by omega) hcs hws) gL_act_X6_count rfl rfl rfl (by decide +kernel) B.1 ⟨Nat.le_of_ble_eq_true rfl, Nat.le_of_ble_eq_true rfl⟩ rfl rfl (Nat.le_of_ble_eq_true rfl) dL_act_135 ⟨(Nat.le_of_ble_eq_true rfl), (Nat.le_of_ble_eq_true rfl)⟩ [0, 1, 2, 3, 4, 5] [] (by decide : ([0, 1, 2, 3, 4, 5] ++ ([] : List Nat)).Perm (List.range 6)) rfl rfl 138 rfl (fun v0 R0 t0 ht0 hp0 => ?_)
      obtain ⟨rfl, rfl⟩ := hp0
      refine q_eqs (st' := [.int (k_tc bx at0 ln sc sv.length 0)]) rfl ?_
      refine q_eqR (Rs' := [wX, wO, wA, wB, wL, wH]) rfl ?_
      refine q_eqs (st' := [.int (nI ln.length)]) (by rw [show k_tc bx at0 ln sc sv.length 0 = nI ln.length from rfl]) ?_
      refine q_if_ne C dL_act_138 141 145 rfl (by decide) (q_eq0 (by omega)) (fun h138 => ?_) (fun h138 => False.elim (by first | omega | simp_all))
      refine q_iload_n C dL_act_145 146 3 rfl rfl ?_
      refine q_aload_n C dL_act_146 147 1 rfl rfl ?_
      refine q_iconst (v := nI 0) C dL_act_147 148 rfl (by decide) ?_
      refine q_callV (k := 0) (ci := 5) (n := 1) (rest := [.int w]) (Rr := []) C rfl (k_isX_recv hX) rfl (c_X6_count_h l hZ hI hN hG h0 aO aY aN hsn aT aK wX hX aB aL aS sc wO hO wA hA bx at0 wB hB ln wL hL sv wH hH 0 (by omega) hcs hws) gL_act_X6_count rfl rfl rfl (by decide +kernel) B.1 ⟨Nat.le_of_ble_eq_true rfl, Nat.le_of_ble_eq_true rfl⟩ rfl rfl (Nat.le_of_ble_eq_true rfl) dL_act_148 ⟨(Nat.le_of_ble_eq_true rfl), (Nat.le_of_ble_eq_true rfl)⟩ [0, 1, 2, 3, 4, 5] [] (by decide : ([0, 1, 2, 3, 4, 5] ++ ([] : List Nat)).Perm (List.range 6)) rfl rfl 151 rfl (fun v0 R0 t0 ht0 hp0 => ?_)
      obtain ⟨rfl, rfl⟩ := hp0
      refine q_eqs (st' := [.int (k_tc bx at0 ln sc sv.length 0), .int w]) rfl ?_
      refine q_eqR (Rs' := [wX, wO, wA, wB, wL, wH]) rfl ?_
      refine q_eqs (st' := [.int (nI ln.length), .int w]) (by rw [show k_tc bx at0 ln sc sv.length 0 = nI ln.length from rfl]) ?_
      refine q_callS (n := 2) (rest := []) (Rr := [wX, wO, wA, wB, wL, wH]) C (c_L_low l hZ hI w ln.length (by omega) (by omega)) gL_act_L_low rfl rfl rfl (by decide +kernel) B.1 ⟨Nat.le_of_ble_eq_true rfl, Nat.le_of_ble_eq_true rfl⟩ rfl rfl (Nat.le_of_ble_eq_true rfl) dL_act_151 ⟨(Nat.le_of_ble_eq_true rfl), (Nat.le_of_ble_eq_true rfl)⟩ [] [0, 1, 2, 3, 4, 5] (by decide : ([] ++ ([0, 1, 2, 3, 4, 5] : List Nat)).Perm (List.range 6)) rfl rfl 154 rfl (fun v0 R0 t0 ht0 hp0 => ?_)
      obtain ⟨rfl, rfl⟩ := hp0
      refine q_eqs (st' := [.int (nI (k_low w ln.length))]) rfl ?_
      refine q_eqR (Rs' := [wX, wO, wA, wB, wL, wH]) rfl ?_
      have hlw151 : k_low w ln.length < ln.length := k_low_lt (by omega)
      refine q_istore C dL_act_154 156 rfl [(4, .int (nI (k_low w ln.length))), (3, .int (nI (k_low w 4))), (0, .ref h0), (1, .int v), (2, .int w)] (by decide) rfl ?_
      refine q_iload C dL_act_156 158 0 rfl rfl ?_
      refine q_if_lt C dL_act_158 161 171 rfl (by decide) (q_lt0 (by omega)) (fun h158 => False.elim (by first | omega | simp_all)) (fun h158 => ?_)
      refine q_aload_n C dL_act_161 162 2 rfl rfl ?_
      refine q_iload C dL_act_162 164 0 rfl rfl ?_
      refine q_iconst (v := nI 3) C dL_act_164 165 rfl (by decide) ?_
      refine q_callV (k := 0) (ci := 5) (n := 2) (rest := []) (Rr := [wH]) C rfl (k_isX_recv hX) rfl (c_X6_line_c l hZ hI hN h0 aO aY aN hsn aT aK wX hX aB aL aS sc wO hO wA hA bx at0 wB hB ln wL hL (k_low w ln.length) 3 (by omega) (k_has_of hL.1.1 (by omega)) (by omega)) gL_act_X6_line rfl rfl rfl (by decide +kernel) B.1 ⟨Nat.le_of_ble_eq_true rfl, Nat.le_of_ble_eq_true rfl⟩ rfl rfl (Nat.le_of_ble_eq_true rfl) dL_act_165 ⟨(Nat.le_of_ble_eq_true rfl), (Nat.le_of_ble_eq_true rfl)⟩ [0, 1, 2, 3, 4] [5] (by decide : ([0, 1, 2, 3, 4] ++ ([5] : List Nat)).Perm (List.range 6)) rfl rfl 168 rfl (fun v0 R0 t0 ht0 hp0 => ?_)
      obtain ⟨rfl, rfl⟩ := hp0
      refine q_eqs (st' := [.int (k_tp bx ln sc (k_low w ln.length) 3)]) rfl ?_
      refine q_eqR (Rs' := [wX, wO, wA, wB, wL, wH]) rfl ?_
      have hwcl := k_wc_le bx ln sc (k_low w ln.length)
      refine q_eqs (st' := [.int (nI (k_wc bx ln sc (k_low w ln.length)))]) (by rw [show k_tp bx ln sc (k_low w ln.length) 3 = nI (k_wc bx ln sc (k_low w ln.length)) from rfl]) ?_
      refine q_if_eq C dL_act_168 171 176 rfl (by decide) (q_eq0 (by omega)) (fun h168 => False.elim (by first | omega | simp_all)) (fun h168 => ?_)
      refine q_bipush (v := -9) C dL_act_171 173 rfl (by decide) ?_
      refine q_goto C dL_act_173 182 (by decide) ?_
      exact q_iret C B dL_act_182 rfl rfl (fun t0 ht0 => ⟨rfl, rfl⟩)

set_option maxHeartbeats 400000 in
set_option maxRecDepth 100000 in
theorem c_L_act_f2 (l : Launch) {D : va_G} {tys : List (ClassId × FieldType)} {Z : (Nat → Prop) → State → Heap → Prop} (hZ : q_St Z) {cI : ClassId} (hI : tys[0]? = some (cI, .int)) (hN : q_Ns Z) {cG : ClassId} (hG : tys[1]? = some (cG, .object "SortCases$State")) {tL tH : Nat} (hVs : q_Vs Z tL tH) (h0 : Nat) (aO : Nat) (aY : Nat) (aN : Nat) (hsn : Int32) (aT : Nat) (aK : Nat) (wX : va_W) (hX : k_isX cI h0 aO aY aN hsn aT aK wX) (aB : Nat) (aL : Nat) (aS : Nat) (sc : Nat → Int32) (wO : va_W) (hO : k_isO cI aO aB aL aS sc wO) (wA : va_W) (hA : k_isA cI aS sc wA) (bx : k_Bx) (at0 : Nat) (wB : va_W) (hB : k_isB cI aB bx at0 wB) (ln : List (Nat × Nat)) (wL : va_W) (hL : k_isL cI aL ln wL) (sv : List k_S) (wH : va_W) (hH : k_isH cG cI aY sv wH) (v : Int32) (w : Int32) (hIv : k_Iv (bx, at0, ln, sc)) (h2 : sc 2 = nI 0 ∨ sc 2 = nI 1) (hj : 8 ≤ k_jj v ∧ k_jj v < 10) (hl0 : 0 < ln.length) (hw : k_wc bx ln sc (k_low w ln.length) = 0) : q_Ct l D tys Z yL_act wsL_act ({ frames := 9, cells := 0, slots := 0, locals := 282 } : Room) 0 0 [.ref h0, .int v, .int w] [wX, wO, wA, wB, wL, wH] (fun v0 R0 _ => v0 = some (.int (nI (k_er (k_rep ln (k_low w ln.length) (k_la ln (k_low w ln.length)).2)))) ∧ ∃ wO', k_isO cI aO aB aL aS (upd (upd sc 8 (sc 8 + nI 1)) 3 (-1)) wO' ∧ ∃ wA', k_isA cI aS (upd (upd sc 8 (sc 8 + nI 1)) 3 (-1)) wA' ∧ ∃ wB', k_isB cI aB ((k_cor (bx, at0, ln, sc) (k_low w ln.length)).1) at0 wB' ∧ ∃ wL', k_isL cI aL (k_rep ln (k_low w ln.length) (k_la ln (k_low w ln.length)).2) wL' ∧ ∃ wH', k_isH cG cI aY ((k_sav sv (bx, at0, ln, sc))) wH' ∧ R0 = [wX, wO', wA', wB', wL', wH']) := by
  have hcI := hI
  have hcG := hG
  refine q_ct (cc := cL_act) (maxL := 6) (ret := (some .int)) (own := RL) (by decide) rfl hZ (Nat.le_of_ble_eq_true rfl) rfl ?_
  intro p9 e9 R s9 m9 args below meth c9 A Q C B
  have hts := C.2.2.2.2.1
  refine q_eqL (L' := [(0, .ref h0), (1, .int v), (2, .int w)]) rfl ?_
  have hll := hL.1.1
  have hok := hB.2.1
  have hcs := k_Cv_cs (S := (bx, at0, ln, sc)) hIv.2
  have hws := k_Cv_ws (S := (bx, at0, ln, sc)) hok hIv.2
  have hbw := k_b20_lt w
  have hlt := k_let_lt w
  have hwnl := k_wn_le bx ln sc (k_let w)
  have hj16 := k_jj_lt v
  refine q_iload_n C dL_act_0 1 2 rfl rfl ?_
  refine q_iload_n C dL_act_1 2 2 rfl rfl ?_
  refine q_bipush (v := nI 20) C dL_act_2 4 rfl (by decide) ?_
  refine q_ishr (v := w >>> 20) C dL_act_4 5 rfl (by rw [show nI 20 &&& 31 = (20 : Int32) by decide]) ?_
  refine q_iconst (v := nI 1) C dL_act_5 6 rfl (by decide) ?_
  refine q_iand (v := nI ((k_b20 w))) C dL_act_6 7 rfl (pk_and (w >>> 20) 1 (by decide)) ?_
  refine q_if_ne C dL_act_7 10 14 rfl (by decide) (q_eq0 (by omega)) (fun h7 => ?_) (fun h7 => ?_)
  · refine q_bipush (v := nI 12) C dL_act_14 16 rfl (by decide) ?_
    refine q_callS (n := 2) (rest := []) (Rr := [wX, wO, wA, wB, wL, wH]) C (c_L_low l hZ hI w 12 (by omega) (by omega)) gL_act_L_low rfl rfl rfl (by decide +kernel) B.1 ⟨Nat.le_of_ble_eq_true rfl, Nat.le_of_ble_eq_true rfl⟩ rfl rfl (Nat.le_of_ble_eq_true rfl) dL_act_16 ⟨(Nat.le_of_ble_eq_true rfl), (Nat.le_of_ble_eq_true rfl)⟩ [] [0, 1, 2, 3, 4, 5] (by decide : ([] ++ ([0, 1, 2, 3, 4, 5] : List Nat)).Perm (List.range 6)) rfl rfl 19 rfl (fun v0 R0 t0 ht0 hp0 => ?_)
    obtain ⟨rfl, rfl⟩ := hp0
    refine q_eqs (st' := [.int (nI (k_low w 12))]) rfl ?_
    refine q_eqR (Rs' := [wX, wO, wA, wB, wL, wH]) rfl ?_
    have hlw16 : k_low w 12 < 12 := k_low_lt (by omega)
    refine q_istore_n C dL_act_19 20 rfl [(3, .int (nI (k_low w 12))), (0, .ref h0), (1, .int v), (2, .int w)] (by decide) rfl ?_
    refine q_iload_n C dL_act_20 21 2 rfl rfl ?_
    refine q_bipush (v := nI 15) C dL_act_21 23 rfl (by decide) ?_
    refine q_iand (v := nI ((k_jj v))) C dL_act_23 24 rfl (pk_and v 4 (by decide)) ?_
    obtain ⟨j, hjv⟩ : ∃ j, j = k_jj v := ⟨_, rfl⟩
    refine q_eqs (st' := [.int (nI j)]) (by rw [hjv]) ?_
    rcases (by omega : j = 8 ∨ j = 9) with rfl | rfl
    · refine q_tableIn C dL_act_24 133 (by decide) (by decide) rfl (by decide) ?_
      refine q_aload_n C dL_act_133 134 1 rfl rfl ?_
      refine q_iconst (v := nI 0) C dL_act_134 135 rfl (by decide) ?_
      refine q_callV (k := 0) (ci := 5) (n := 1) (rest := []) (Rr := []) C rfl (k_isX_recv hX) rfl (c_X6_count_h l hZ hI hN hG h0 aO aY aN hsn aT aK wX hX aB aL aS sc wO hO wA hA bx at0 wB hB ln wL hL sv wH hH 0 (by omega) hcs hws) gL_act_X6_count rfl rfl rfl (by decide +kernel) B.1 ⟨Nat.le_of_ble_eq_true rfl, Nat.le_of_ble_eq_true rfl⟩ rfl rfl (Nat.le_of_ble_eq_true rfl) dL_act_135 ⟨(Nat.le_of_ble_eq_true rfl), (Nat.le_of_ble_eq_true rfl)⟩ [0, 1, 2, 3, 4, 5] [] (by decide : ([0, 1, 2, 3, 4, 5] ++ ([] : List Nat)).Perm (List.range 6)) rfl rfl 138 rfl (fun v0 R0 t0 ht0 hp0 => ?_)
      obtain ⟨rfl, rfl⟩ := hp0
      refine q_eqs (st' := [.int (k_tc bx at0 ln sc sv.length 0)]) rfl ?_
      refine q_eqR (Rs' := [wX, wO, wA, wB, wL, wH]) rfl ?_
      refine q_eqs (st' := [.int (nI ln.length)]) (by rw [show k_tc bx at0 ln sc sv.length 0 = nI ln.length from rfl]) ?_
      refine q_if_ne C dL_act_138 141 145 rfl (by decide) (q_eq0 (by omega)) (fun h138 => ?_) (fun h138 => False.elim (by first | omega | simp_all))
      refine q_iload_n C dL_act_145 146 3 rfl rfl ?_
      refine q_aload_n C dL_act_146 147 1 rfl rfl ?_
      refine q_iconst (v := nI 0) C dL_act_147 148 rfl (by decide) ?_
      refine q_callV (k := 0) (ci := 5) (n := 1) (rest := [.int w]) (Rr := []) C rfl (k_isX_recv hX) rfl (c_X6_count_h l hZ hI hN hG h0 aO aY aN hsn aT aK wX hX aB aL aS sc wO hO wA hA bx at0 wB hB ln wL hL sv wH hH 0 (by omega) hcs hws) gL_act_X6_count rfl rfl rfl (by decide +kernel) B.1 ⟨Nat.le_of_ble_eq_true rfl, Nat.le_of_ble_eq_true rfl⟩ rfl rfl (Nat.le_of_ble_eq_true rfl) dL_act_148 ⟨(Nat.le_of_ble_eq_true rfl), (Nat.le_of_ble_eq_true rfl)⟩ [0, 1, 2, 3, 4, 5] [] (by decide : ([0, 1, 2, 3, 4, 5] ++ ([] : List Nat)).Perm (List.range 6)) rfl rfl 151 rfl (fun v0 R0 t0 ht0 hp0 => ?_)
      obtain ⟨rfl, rfl⟩ := hp0
      refine q_eqs (st' := [.int (k_tc bx at0 ln sc sv.length 0), .int w]) rfl ?_
      refine q_eqR (Rs' := [wX, wO, wA, wB, wL, wH]) rfl ?_
      refine q_eqs (st' := [.int (nI ln.length), .int w]) (by rw [show k_tc bx at0 ln sc sv.length 0 = nI ln.length from rfl]) ?_
      refine q_callS (n := 2) (rest := []) (Rr := [wX, wO, wA, wB, wL, wH]) C (c_L_low l hZ hI w ln.length (by omega) (by omega)) gL_act_L_low rfl rfl rfl (by decide +kernel) B.1 ⟨Nat.le_of_ble_eq_true rfl, Nat.le_of_ble_eq_true rfl⟩ rfl rfl (Nat.le_of_ble_eq_true rfl) dL_act_151 ⟨(Nat.le_of_ble_eq_true rfl), (Nat.le_of_ble_eq_true rfl)⟩ [] [0, 1, 2, 3, 4, 5] (by decide : ([] ++ ([0, 1, 2, 3, 4, 5] : List Nat)).Perm (List.range 6)) rfl rfl 154 rfl (fun v0 R0 t0 ht0 hp0 => ?_)
      obtain ⟨rfl, rfl⟩ := hp0
      refine q_eqs (st' := [.int (nI (k_low w ln.length))]) rfl ?_
      refine q_eqR (Rs' := [wX, wO, wA, wB, wL, wH]) rfl ?_
      have hlw151 : k_low w ln.length < ln.length := k_low_lt (by omega)
      refine q_istore C dL_act_154 156 rfl [(4, .int (nI (k_low w ln.length))), (3, .int (nI (k_low w 12))), (0, .ref h0), (1, .int v), (2, .int w)] (by decide) rfl ?_
      refine q_iload C dL_act_156 158 0 rfl rfl ?_
      refine q_if_lt C dL_act_158 161 171 rfl (by decide) (q_lt0 (by omega)) (fun h158 => False.elim (by first | omega | simp_all)) (fun h158 => ?_)
      refine q_aload_n C dL_act_161 162 2 rfl rfl ?_
      refine q_iload C dL_act_162 164 0 rfl rfl ?_
      refine q_iconst (v := nI 3) C dL_act_164 165 rfl (by decide) ?_
      refine q_callV (k := 0) (ci := 5) (n := 2) (rest := []) (Rr := [wH]) C rfl (k_isX_recv hX) rfl (c_X6_line_c l hZ hI hN h0 aO aY aN hsn aT aK wX hX aB aL aS sc wO hO wA hA bx at0 wB hB ln wL hL (k_low w ln.length) 3 (by omega) (k_has_of hL.1.1 (by omega)) (by omega)) gL_act_X6_line rfl rfl rfl (by decide +kernel) B.1 ⟨Nat.le_of_ble_eq_true rfl, Nat.le_of_ble_eq_true rfl⟩ rfl rfl (Nat.le_of_ble_eq_true rfl) dL_act_165 ⟨(Nat.le_of_ble_eq_true rfl), (Nat.le_of_ble_eq_true rfl)⟩ [0, 1, 2, 3, 4] [5] (by decide : ([0, 1, 2, 3, 4] ++ ([5] : List Nat)).Perm (List.range 6)) rfl rfl 168 rfl (fun v0 R0 t0 ht0 hp0 => ?_)
      obtain ⟨rfl, rfl⟩ := hp0
      refine q_eqs (st' := [.int (k_tp bx ln sc (k_low w ln.length) 3)]) rfl ?_
      refine q_eqR (Rs' := [wX, wO, wA, wB, wL, wH]) rfl ?_
      have hwcl := k_wc_le bx ln sc (k_low w ln.length)
      refine q_eqs (st' := [.int (nI (k_wc bx ln sc (k_low w ln.length)))]) (by rw [show k_tp bx ln sc (k_low w ln.length) 3 = nI (k_wc bx ln sc (k_low w ln.length)) from rfl]) ?_
      refine q_if_eq C dL_act_168 171 176 rfl (by decide) (q_eq0 (by omega)) (fun h168 => ?_) (fun h168 => False.elim (by first | omega | simp_all))
      refine q_aload_n C dL_act_176 177 2 rfl rfl ?_
      refine q_iload C dL_act_177 179 0 rfl rfl ?_
      refine q_callV (k := 0) (ci := 5) (n := 1) (rest := []) (Rr := []) C rfl (k_isX_recv hX) rfl (c_X6_fix_c l hZ hI hN hG h0 aO aY aN hsn aT aK wX hX aB aL aS sc wO hO wA hA bx at0 wB hB ln wL hL sv wH hH (k_low w ln.length) (by omega) (k_has_of hL.1.1 (by omega)) hw) gL_act_X6_fix rfl rfl rfl (by decide +kernel) B.1 ⟨Nat.le_of_ble_eq_true rfl, Nat.le_of_ble_eq_true rfl⟩ rfl rfl (Nat.le_of_ble_eq_true rfl) dL_act_179 ⟨(Nat.le_of_ble_eq_true rfl), (Nat.le_of_ble_eq_true rfl)⟩ [0, 1, 2, 3, 4, 5] [] (by decide : ([0, 1, 2, 3, 4, 5] ++ ([] : List Nat)).Perm (List.range 6)) rfl rfl 182 rfl (fun v0 R0 t0 ht0 hp0 => ?_)
      obtain ⟨rfl, wO_179, hwO_179, wA_179, hwA_179, wB_179, hwB_179, wL_179, hwL_179, wH_179, hwH_179, rfl⟩ := hp0
      refine q_eqs (st' := [.int (nI (k_er (k_rep ln (k_low w ln.length) (k_la ln (k_low w ln.length)).2)))]) rfl ?_
      refine q_eqR (Rs' := [wX, wO_179, wA_179, wB_179, wL_179, wH_179]) rfl ?_
      exact q_iret C B dL_act_182 rfl rfl (fun t0 ht0 => ⟨rfl, _, hwO_179, _, hwA_179, _, hwB_179, _, hwL_179, _, hwH_179, by first | rfl | simp⟩)
    · refine q_tableIn C dL_act_24 133 (by decide) (by decide) rfl (by decide) ?_
      refine q_aload_n C dL_act_133 134 1 rfl rfl ?_
      refine q_iconst (v := nI 0) C dL_act_134 135 rfl (by decide) ?_
      refine q_callV (k := 0) (ci := 5) (n := 1) (rest := []) (Rr := []) C rfl (k_isX_recv hX) rfl (c_X6_count_h l hZ hI hN hG h0 aO aY aN hsn aT aK wX hX aB aL aS sc wO hO wA hA bx at0 wB hB ln wL hL sv wH hH 0 (by omega) hcs hws) gL_act_X6_count rfl rfl rfl (by decide +kernel) B.1 ⟨Nat.le_of_ble_eq_true rfl, Nat.le_of_ble_eq_true rfl⟩ rfl rfl (Nat.le_of_ble_eq_true rfl) dL_act_135 ⟨(Nat.le_of_ble_eq_true rfl), (Nat.le_of_ble_eq_true rfl)⟩ [0, 1, 2, 3, 4, 5] [] (by decide : ([0, 1, 2, 3, 4, 5] ++ ([] : List Nat)).Perm (List.range 6)) rfl rfl 138 rfl (fun v0 R0 t0 ht0 hp0 => ?_)
      obtain ⟨rfl, rfl⟩ := hp0
      refine q_eqs (st' := [.int (k_tc bx at0 ln sc sv.length 0)]) rfl ?_
      refine q_eqR (Rs' := [wX, wO, wA, wB, wL, wH]) rfl ?_
      refine q_eqs (st' := [.int (nI ln.length)]) (by rw [show k_tc bx at0 ln sc sv.length 0 = nI ln.length from rfl]) ?_
      refine q_if_ne C dL_act_138 141 145 rfl (by decide) (q_eq0 (by omega)) (fun h138 => ?_) (fun h138 => False.elim (by first | omega | simp_all))
      refine q_iload_n C dL_act_145 146 3 rfl rfl ?_
      refine q_aload_n C dL_act_146 147 1 rfl rfl ?_
      refine q_iconst (v := nI 0) C dL_act_147 148 rfl (by decide) ?_
      refine q_callV (k := 0) (ci := 5) (n := 1) (rest := [.int w]) (Rr := []) C rfl (k_isX_recv hX) rfl (c_X6_count_h l hZ hI hN hG h0 aO aY aN hsn aT aK wX hX aB aL aS sc wO hO wA hA bx at0 wB hB ln wL hL sv wH hH 0 (by omega) hcs hws) gL_act_X6_count rfl rfl rfl (by decide +kernel) B.1 ⟨Nat.le_of_ble_eq_true rfl, Nat.le_of_ble_eq_true rfl⟩ rfl rfl (Nat.le_of_ble_eq_true rfl) dL_act_148 ⟨(Nat.le_of_ble_eq_true rfl), (Nat.le_of_ble_eq_true rfl)⟩ [0, 1, 2, 3, 4, 5] [] (by decide : ([0, 1, 2, 3, 4, 5] ++ ([] : List Nat)).Perm (List.range 6)) rfl rfl 151 rfl (fun v0 R0 t0 ht0 hp0 => ?_)
      obtain ⟨rfl, rfl⟩ := hp0
      refine q_eqs (st' := [.int (k_tc bx at0 ln sc sv.length 0), .int w]) rfl ?_
      refine q_eqR (Rs' := [wX, wO, wA, wB, wL, wH]) rfl ?_
      refine q_eqs (st' := [.int (nI ln.length), .int w]) (by rw [show k_tc bx at0 ln sc sv.length 0 = nI ln.length from rfl]) ?_
      refine q_callS (n := 2) (rest := []) (Rr := [wX, wO, wA, wB, wL, wH]) C (c_L_low l hZ hI w ln.length (by omega) (by omega)) gL_act_L_low rfl rfl rfl (by decide +kernel) B.1 ⟨Nat.le_of_ble_eq_true rfl, Nat.le_of_ble_eq_true rfl⟩ rfl rfl (Nat.le_of_ble_eq_true rfl) dL_act_151 ⟨(Nat.le_of_ble_eq_true rfl), (Nat.le_of_ble_eq_true rfl)⟩ [] [0, 1, 2, 3, 4, 5] (by decide : ([] ++ ([0, 1, 2, 3, 4, 5] : List Nat)).Perm (List.range 6)) rfl rfl 154 rfl (fun v0 R0 t0 ht0 hp0 => ?_)
      obtain ⟨rfl, rfl⟩ := hp0
      refine q_eqs (st' := [.int (nI (k_low w ln.length))]) rfl ?_
      refine q_eqR (Rs' := [wX, wO, wA, wB, wL, wH]) rfl ?_
      have hlw151 : k_low w ln.length < ln.length := k_low_lt (by omega)
      refine q_istore C dL_act_154 156 rfl [(4, .int (nI (k_low w ln.length))), (3, .int (nI (k_low w 12))), (0, .ref h0), (1, .int v), (2, .int w)] (by decide) rfl ?_
      refine q_iload C dL_act_156 158 0 rfl rfl ?_
      refine q_if_lt C dL_act_158 161 171 rfl (by decide) (q_lt0 (by omega)) (fun h158 => False.elim (by first | omega | simp_all)) (fun h158 => ?_)
      refine q_aload_n C dL_act_161 162 2 rfl rfl ?_
      refine q_iload C dL_act_162 164 0 rfl rfl ?_
      refine q_iconst (v := nI 3) C dL_act_164 165 rfl (by decide) ?_
      refine q_callV (k := 0) (ci := 5) (n := 2) (rest := []) (Rr := [wH]) C rfl (k_isX_recv hX) rfl (c_X6_line_c l hZ hI hN h0 aO aY aN hsn aT aK wX hX aB aL aS sc wO hO wA hA bx at0 wB hB ln wL hL (k_low w ln.length) 3 (by omega) (k_has_of hL.1.1 (by omega)) (by omega)) gL_act_X6_line rfl rfl rfl (by decide +kernel) B.1 ⟨Nat.le_of_ble_eq_true rfl, Nat.le_of_ble_eq_true rfl⟩ rfl rfl (Nat.le_of_ble_eq_true rfl) dL_act_165 ⟨(Nat.le_of_ble_eq_true rfl), (Nat.le_of_ble_eq_true rfl)⟩ [0, 1, 2, 3, 4] [5] (by decide : ([0, 1, 2, 3, 4] ++ ([5] : List Nat)).Perm (List.range 6)) rfl rfl 168 rfl (fun v0 R0 t0 ht0 hp0 => ?_)
      obtain ⟨rfl, rfl⟩ := hp0
      refine q_eqs (st' := [.int (k_tp bx ln sc (k_low w ln.length) 3)]) rfl ?_
      refine q_eqR (Rs' := [wX, wO, wA, wB, wL, wH]) rfl ?_
      have hwcl := k_wc_le bx ln sc (k_low w ln.length)
      refine q_eqs (st' := [.int (nI (k_wc bx ln sc (k_low w ln.length)))]) (by rw [show k_tp bx ln sc (k_low w ln.length) 3 = nI (k_wc bx ln sc (k_low w ln.length)) from rfl]) ?_
      refine q_if_eq C dL_act_168 171 176 rfl (by decide) (q_eq0 (by omega)) (fun h168 => ?_) (fun h168 => False.elim (by first | omega | simp_all))
      refine q_aload_n C dL_act_176 177 2 rfl rfl ?_
      refine q_iload C dL_act_177 179 0 rfl rfl ?_
      refine q_callV (k := 0) (ci := 5) (n := 1) (rest := []) (Rr := []) C rfl (k_isX_recv hX) rfl (c_X6_fix_c l hZ hI hN hG h0 aO aY aN hsn aT aK wX hX aB aL aS sc wO hO wA hA bx at0 wB hB ln wL hL sv wH hH (k_low w ln.length) (by omega) (k_has_of hL.1.1 (by omega)) hw) gL_act_X6_fix rfl rfl rfl (by decide +kernel) B.1 ⟨Nat.le_of_ble_eq_true rfl, Nat.le_of_ble_eq_true rfl⟩ rfl rfl (Nat.le_of_ble_eq_true rfl) dL_act_179 ⟨(Nat.le_of_ble_eq_true rfl), (Nat.le_of_ble_eq_true rfl)⟩ [0, 1, 2, 3, 4, 5] [] (by decide : ([0, 1, 2, 3, 4, 5] ++ ([] : List Nat)).Perm (List.range 6)) rfl rfl 182 rfl (fun v0 R0 t0 ht0 hp0 => ?_)
      obtain ⟨rfl, wO_179, hwO_179, wA_179, hwA_179, wB_179, hwB_179, wL_179, hwL_179, wH_179, hwH_179, rfl⟩ := hp0
      refine q_eqs (st' := [.int (nI (k_er (k_rep ln (k_low w ln.length) (k_la ln (k_low w ln.length)).2)))]) rfl ?_
      refine q_eqR (Rs' := [wX, wO_179, wA_179, wB_179, wL_179, wH_179]) rfl ?_
      exact q_iret C B dL_act_182 rfl rfl (fun t0 ht0 => ⟨rfl, _, hwO_179, _, hwA_179, _, hwB_179, _, hwL_179, _, hwH_179, by first | rfl | simp⟩)
  · refine q_iconst (v := nI 4) C dL_act_10 11 rfl (by decide) ?_
    refine q_goto C dL_act_11 16 (by decide) ?_
    refine q_callS (n := 2) (rest := []) (Rr := [wX, wO, wA, wB, wL, wH]) C (c_L_low l hZ hI w 4 (by omega) (by omega)) gL_act_L_low rfl rfl rfl (by decide +kernel) B.1 ⟨Nat.le_of_ble_eq_true rfl, Nat.le_of_ble_eq_true rfl⟩ rfl rfl (Nat.le_of_ble_eq_true rfl) dL_act_16 ⟨(Nat.le_of_ble_eq_true rfl), (Nat.le_of_ble_eq_true rfl)⟩ [] [0, 1, 2, 3, 4, 5] (by decide : ([] ++ ([0, 1, 2, 3, 4, 5] : List Nat)).Perm (List.range 6)) rfl rfl 19 rfl (fun v0 R0 t0 ht0 hp0 => ?_)
    obtain ⟨rfl, rfl⟩ := hp0
    refine q_eqs (st' := [.int (nI (k_low w 4))]) rfl ?_
    refine q_eqR (Rs' := [wX, wO, wA, wB, wL, wH]) rfl ?_
    have hlw16 : k_low w 4 < 4 := k_low_lt (by omega)
    refine q_istore_n C dL_act_19 20 rfl [(3, .int (nI (k_low w 4))), (0, .ref h0), (1, .int v), (2, .int w)] (by decide) rfl ?_
    refine q_iload_n C dL_act_20 21 2 rfl rfl ?_
    refine q_bipush (v := nI 15) C dL_act_21 23 rfl (by decide) ?_
    refine q_iand (v := nI ((k_jj v))) C dL_act_23 24 rfl (pk_and v 4 (by decide)) ?_
    obtain ⟨j, hjv⟩ : ∃ j, j = k_jj v := ⟨_, rfl⟩
    refine q_eqs (st' := [.int (nI j)]) (by rw [hjv]) ?_
    rcases (by omega : j = 8 ∨ j = 9) with rfl | rfl
    · refine q_tableIn C dL_act_24 133 (by decide) (by decide) rfl (by decide) ?_
      refine q_aload_n C dL_act_133 134 1 rfl rfl ?_
      refine q_iconst (v := nI 0) C dL_act_134 135 rfl (by decide) ?_
      refine q_callV (k := 0) (ci := 5) (n := 1) (rest := []) (Rr := []) C rfl (k_isX_recv hX) rfl (c_X6_count_h l hZ hI hN hG h0 aO aY aN hsn aT aK wX hX aB aL aS sc wO hO wA hA bx at0 wB hB ln wL hL sv wH hH 0 (by omega) hcs hws) gL_act_X6_count rfl rfl rfl (by decide +kernel) B.1 ⟨Nat.le_of_ble_eq_true rfl, Nat.le_of_ble_eq_true rfl⟩ rfl rfl (Nat.le_of_ble_eq_true rfl) dL_act_135 ⟨(Nat.le_of_ble_eq_true rfl), (Nat.le_of_ble_eq_true rfl)⟩ [0, 1, 2, 3, 4, 5] [] (by decide : ([0, 1, 2, 3, 4, 5] ++ ([] : List Nat)).Perm (List.range 6)) rfl rfl 138 rfl (fun v0 R0 t0 ht0 hp0 => ?_)
      obtain ⟨rfl, rfl⟩ := hp0
      refine q_eqs (st' := [.int (k_tc bx at0 ln sc sv.length 0)]) rfl ?_
      refine q_eqR (Rs' := [wX, wO, wA, wB, wL, wH]) rfl ?_
      refine q_eqs (st' := [.int (nI ln.length)]) (by rw [show k_tc bx at0 ln sc sv.length 0 = nI ln.length from rfl]) ?_
      refine q_if_ne C dL_act_138 141 145 rfl (by decide) (q_eq0 (by omega)) (fun h138 => ?_) (fun h138 => False.elim (by first | omega | simp_all))
      refine q_iload_n C dL_act_145 146 3 rfl rfl ?_
      refine q_aload_n C dL_act_146 147 1 rfl rfl ?_
      refine q_iconst (v := nI 0) C dL_act_147 148 rfl (by decide) ?_
      refine q_callV (k := 0) (ci := 5) (n := 1) (rest := [.int w]) (Rr := []) C rfl (k_isX_recv hX) rfl (c_X6_count_h l hZ hI hN hG h0 aO aY aN hsn aT aK wX hX aB aL aS sc wO hO wA hA bx at0 wB hB ln wL hL sv wH hH 0 (by omega) hcs hws) gL_act_X6_count rfl rfl rfl (by decide +kernel) B.1 ⟨Nat.le_of_ble_eq_true rfl, Nat.le_of_ble_eq_true rfl⟩ rfl rfl (Nat.le_of_ble_eq_true rfl) dL_act_148 ⟨(Nat.le_of_ble_eq_true rfl), (Nat.le_of_ble_eq_true rfl)⟩ [0, 1, 2, 3, 4, 5] [] (by decide : ([0, 1, 2, 3, 4, 5] ++ ([] : List Nat)).Perm (List.range 6)) rfl rfl 151 rfl (fun v0 R0 t0 ht0 hp0 => ?_)
      obtain ⟨rfl, rfl⟩ := hp0
      refine q_eqs (st' := [.int (k_tc bx at0 ln sc sv.length 0), .int w]) rfl ?_
      refine q_eqR (Rs' := [wX, wO, wA, wB, wL, wH]) rfl ?_
      refine q_eqs (st' := [.int (nI ln.length), .int w]) (by rw [show k_tc bx at0 ln sc sv.length 0 = nI ln.length from rfl]) ?_
      refine q_callS (n := 2) (rest := []) (Rr := [wX, wO, wA, wB, wL, wH]) C (c_L_low l hZ hI w ln.length (by omega) (by omega)) gL_act_L_low rfl rfl rfl (by decide +kernel) B.1 ⟨Nat.le_of_ble_eq_true rfl, Nat.le_of_ble_eq_true rfl⟩ rfl rfl (Nat.le_of_ble_eq_true rfl) dL_act_151 ⟨(Nat.le_of_ble_eq_true rfl), (Nat.le_of_ble_eq_true rfl)⟩ [] [0, 1, 2, 3, 4, 5] (by decide : ([] ++ ([0, 1, 2, 3, 4, 5] : List Nat)).Perm (List.range 6)) rfl rfl 154 rfl (fun v0 R0 t0 ht0 hp0 => ?_)
      obtain ⟨rfl, rfl⟩ := hp0
      refine q_eqs (st' := [.int (nI (k_low w ln.length))]) rfl ?_
      refine q_eqR (Rs' := [wX, wO, wA, wB, wL, wH]) rfl ?_
      have hlw151 : k_low w ln.length < ln.length := k_low_lt (by omega)
      refine q_istore C dL_act_154 156 rfl [(4, .int (nI (k_low w ln.length))), (3, .int (nI (k_low w 4))), (0, .ref h0), (1, .int v), (2, .int w)] (by decide) rfl ?_
      refine q_iload C dL_act_156 158 0 rfl rfl ?_
      refine q_if_lt C dL_act_158 161 171 rfl (by decide) (q_lt0 (by omega)) (fun h158 => False.elim (by first | omega | simp_all)) (fun h158 => ?_)
      refine q_aload_n C dL_act_161 162 2 rfl rfl ?_
      refine q_iload C dL_act_162 164 0 rfl rfl ?_
      refine q_iconst (v := nI 3) C dL_act_164 165 rfl (by decide) ?_
      refine q_callV (k := 0) (ci := 5) (n := 2) (rest := []) (Rr := [wH]) C rfl (k_isX_recv hX) rfl (c_X6_line_c l hZ hI hN h0 aO aY aN hsn aT aK wX hX aB aL aS sc wO hO wA hA bx at0 wB hB ln wL hL (k_low w ln.length) 3 (by omega) (k_has_of hL.1.1 (by omega)) (by omega)) gL_act_X6_line rfl rfl rfl (by decide +kernel) B.1 ⟨Nat.le_of_ble_eq_true rfl, Nat.le_of_ble_eq_true rfl⟩ rfl rfl (Nat.le_of_ble_eq_true rfl) dL_act_165 ⟨(Nat.le_of_ble_eq_true rfl), (Nat.le_of_ble_eq_true rfl)⟩ [0, 1, 2, 3, 4] [5] (by decide : ([0, 1, 2, 3, 4] ++ ([5] : List Nat)).Perm (List.range 6)) rfl rfl 168 rfl (fun v0 R0 t0 ht0 hp0 => ?_)
      obtain ⟨rfl, rfl⟩ := hp0
      refine q_eqs (st' := [.int (k_tp bx ln sc (k_low w ln.length) 3)]) rfl ?_
      refine q_eqR (Rs' := [wX, wO, wA, wB, wL, wH]) rfl ?_
      have hwcl := k_wc_le bx ln sc (k_low w ln.length)
      refine q_eqs (st' := [.int (nI (k_wc bx ln sc (k_low w ln.length)))]) (by rw [show k_tp bx ln sc (k_low w ln.length) 3 = nI (k_wc bx ln sc (k_low w ln.length)) from rfl]) ?_
      refine q_if_eq C dL_act_168 171 176 rfl (by decide) (q_eq0 (by omega)) (fun h168 => ?_) (fun h168 => False.elim (by first | omega | simp_all))
      refine q_aload_n C dL_act_176 177 2 rfl rfl ?_
      refine q_iload C dL_act_177 179 0 rfl rfl ?_
      refine q_callV (k := 0) (ci := 5) (n := 1) (rest := []) (Rr := []) C rfl (k_isX_recv hX) rfl (c_X6_fix_c l hZ hI hN hG h0 aO aY aN hsn aT aK wX hX aB aL aS sc wO hO wA hA bx at0 wB hB ln wL hL sv wH hH (k_low w ln.length) (by omega) (k_has_of hL.1.1 (by omega)) hw) gL_act_X6_fix rfl rfl rfl (by decide +kernel) B.1 ⟨Nat.le_of_ble_eq_true rfl, Nat.le_of_ble_eq_true rfl⟩ rfl rfl (Nat.le_of_ble_eq_true rfl) dL_act_179 ⟨(Nat.le_of_ble_eq_true rfl), (Nat.le_of_ble_eq_true rfl)⟩ [0, 1, 2, 3, 4, 5] [] (by decide : ([0, 1, 2, 3, 4, 5] ++ ([] : List Nat)).Perm (List.range 6)) rfl rfl 182 rfl (fun v0 R0 t0 ht0 hp0 => ?_)
      obtain ⟨rfl, wO_179, hwO_179, wA_179, hwA_179, wB_179, hwB_179, wL_179, hwL_179, wH_179, hwH_179, rfl⟩ := hp0
      refine q_eqs (st' := [.int (nI (k_er (k_rep ln (k_low w ln.length) (k_la ln (k_low w ln.length)).2)))]) rfl ?_
      refine q_eqR (Rs' := [wX, wO_179, wA_179, wB_179, wL_179, wH_179]) rfl ?_
      exact q_iret C B dL_act_182 rfl rfl (fun t0 ht0 => ⟨rfl, _, hwO_179, _, hwA_179, _, hwB_179, _, hwL_179, _, hwH_179, by first | rfl | simp⟩)
    · refine q_tableIn C dL_act_24 133 (by decide) (by decide) rfl (by decide) ?_
      refine q_aload_n C dL_act_133 134 1 rfl rfl ?_
      refine q_iconst (v := nI 0) C dL_act_134 135 rfl (by decide) ?_
      refine q_callV (k := 0) (ci := 5) (n := 1) (rest := []) (Rr := []) C rfl (k_isX_recv hX) rfl (c_X6_count_h l hZ hI hN hG h0 aO aY aN hsn aT aK wX hX aB aL aS sc wO hO wA hA bx at0 wB hB ln wL hL sv wH hH 0 (by omega) hcs hws) gL_act_X6_count rfl rfl rfl (by decide +kernel) B.1 ⟨Nat.le_of_ble_eq_true rfl, Nat.le_of_ble_eq_true rfl⟩ rfl rfl (Nat.le_of_ble_eq_true rfl) dL_act_135 ⟨(Nat.le_of_ble_eq_true rfl), (Nat.le_of_ble_eq_true rfl)⟩ [0, 1, 2, 3, 4, 5] [] (by decide : ([0, 1, 2, 3, 4, 5] ++ ([] : List Nat)).Perm (List.range 6)) rfl rfl 138 rfl (fun v0 R0 t0 ht0 hp0 => ?_)
      obtain ⟨rfl, rfl⟩ := hp0
      refine q_eqs (st' := [.int (k_tc bx at0 ln sc sv.length 0)]) rfl ?_
      refine q_eqR (Rs' := [wX, wO, wA, wB, wL, wH]) rfl ?_
      refine q_eqs (st' := [.int (nI ln.length)]) (by rw [show k_tc bx at0 ln sc sv.length 0 = nI ln.length from rfl]) ?_
      refine q_if_ne C dL_act_138 141 145 rfl (by decide) (q_eq0 (by omega)) (fun h138 => ?_) (fun h138 => False.elim (by first | omega | simp_all))
      refine q_iload_n C dL_act_145 146 3 rfl rfl ?_
      refine q_aload_n C dL_act_146 147 1 rfl rfl ?_
      refine q_iconst (v := nI 0) C dL_act_147 148 rfl (by decide) ?_
      refine q_callV (k := 0) (ci := 5) (n := 1) (rest := [.int w]) (Rr := []) C rfl (k_isX_recv hX) rfl (c_X6_count_h l hZ hI hN hG h0 aO aY aN hsn aT aK wX hX aB aL aS sc wO hO wA hA bx at0 wB hB ln wL hL sv wH hH 0 (by omega) hcs hws) gL_act_X6_count rfl rfl rfl (by decide +kernel) B.1 ⟨Nat.le_of_ble_eq_true rfl, Nat.le_of_ble_eq_true rfl⟩ rfl rfl (Nat.le_of_ble_eq_true rfl) dL_act_148 ⟨(Nat.le_of_ble_eq_true rfl), (Nat.le_of_ble_eq_true rfl)⟩ [0, 1, 2, 3, 4, 5] [] (by decide : ([0, 1, 2, 3, 4, 5] ++ ([] : List Nat)).Perm (List.range 6)) rfl rfl 151 rfl (fun v0 R0 t0 ht0 hp0 => ?_)
      obtain ⟨rfl, rfl⟩ := hp0
      refine q_eqs (st' := [.int (k_tc bx at0 ln sc sv.length 0), .int w]) rfl ?_
      refine q_eqR (Rs' := [wX, wO, wA, wB, wL, wH]) rfl ?_
      refine q_eqs (st' := [.int (nI ln.length), .int w]) (by rw [show k_tc bx at0 ln sc sv.length 0 = nI ln.length from rfl]) ?_
      refine q_callS (n := 2) (rest := []) (Rr := [wX, wO, wA, wB, wL, wH]) C (c_L_low l hZ hI w ln.length (by omega) (by omega)) gL_act_L_low rfl rfl rfl (by decide +kernel) B.1 ⟨Nat.le_of_ble_eq_true rfl, Nat.le_of_ble_eq_true rfl⟩ rfl rfl (Nat.le_of_ble_eq_true rfl) dL_act_151 ⟨(Nat.le_of_ble_eq_true rfl), (Nat.le_of_ble_eq_true rfl)⟩ [] [0, 1, 2, 3, 4, 5] (by decide : ([] ++ ([0, 1, 2, 3, 4, 5] : List Nat)).Perm (List.range 6)) rfl rfl 154 rfl (fun v0 R0 t0 ht0 hp0 => ?_)
      obtain ⟨rfl, rfl⟩ := hp0
      refine q_eqs (st' := [.int (nI (k_low w ln.length))]) rfl ?_
      refine q_eqR (Rs' := [wX, wO, wA, wB, wL, wH]) rfl ?_
      have hlw151 : k_low w ln.length < ln.length := k_low_lt (by omega)
      refine q_istore C dL_act_154 156 rfl [(4, .int (nI (k_low w ln.length))), (3, .int (nI (k_low w 4))), (0, .ref h0), (1, .int v), (2, .int w)] (by decide) rfl ?_
      refine q_iload C dL_act_156 158 0 rfl rfl ?_
      refine q_if_lt C dL_act_158 161 171 rfl (by decide) (q_lt0 (by omega)) (fun h158 => False.elim (by first | omega | simp_all)) (fun h158 => ?_)
      refine q_aload_n C dL_act_161 162 2 rfl rfl ?_
      refine q_iload C dL_act_162 164 0 rfl rfl ?_
      refine q_iconst (v := nI 3) C dL_act_164 165 rfl (by decide) ?_
      refine q_callV (k := 0) (ci := 5) (n := 2) (rest := []) (Rr := [wH]) C rfl (k_isX_recv hX) rfl (c_X6_line_c l hZ hI hN h0 aO aY aN hsn aT aK wX hX aB aL aS sc wO hO wA hA bx at0 wB hB ln wL hL (k_low w ln.length) 3 (by omega) (k_has_of hL.1.1 (by omega)) (by omega)) gL_act_X6_line rfl rfl rfl (by decide +kernel) B.1 ⟨Nat.le_of_ble_eq_true rfl, Nat.le_of_ble_eq_true rfl⟩ rfl rfl (Nat.le_of_ble_eq_true rfl) dL_act_165 ⟨(Nat.le_of_ble_eq_true rfl), (Nat.le_of_ble_eq_true rfl)⟩ [0, 1, 2, 3, 4] [5] (by decide : ([0, 1, 2, 3, 4] ++ ([5] : List Nat)).Perm (List.range 6)) rfl rfl 168 rfl (fun v0 R0 t0 ht0 hp0 => ?_)
      obtain ⟨rfl, rfl⟩ := hp0
      refine q_eqs (st' := [.int (k_tp bx ln sc (k_low w ln.length) 3)]) rfl ?_
      refine q_eqR (Rs' := [wX, wO, wA, wB, wL, wH]) rfl ?_
      have hwcl := k_wc_le bx ln sc (k_low w ln.length)
      refine q_eqs (st' := [.int (nI (k_wc bx ln sc (k_low w ln.length)))]) (by rw [show k_tp bx ln sc (k_low w ln.length) 3 = nI (k_wc bx ln sc (k_low w ln.length)) from rfl]) ?_
      refine q_if_eq C dL_act_168 171 176 rfl (by decide) (q_eq0 (by omega)) (fun h168 => ?_) (fun h168 => False.elim (by first | omega | simp_all))
      refine q_aload_n C dL_act_176 177 2 rfl rfl ?_
      refine q_iload C dL_act_177 179 0 rfl rfl ?_
      refine q_callV (k := 0) (ci := 5) (n := 1) (rest := []) (Rr := []) C rfl (k_isX_recv hX) rfl (c_X6_fix_c l hZ hI hN hG h0 aO aY aN hsn aT aK wX hX aB aL aS sc wO hO wA hA bx at0 wB hB ln wL hL sv wH hH (k_low w ln.length) (by omega) (k_has_of hL.1.1 (by omega)) hw) gL_act_X6_fix rfl rfl rfl (by decide +kernel) B.1 ⟨Nat.le_of_ble_eq_true rfl, Nat.le_of_ble_eq_true rfl⟩ rfl rfl (Nat.le_of_ble_eq_true rfl) dL_act_179 ⟨(Nat.le_of_ble_eq_true rfl), (Nat.le_of_ble_eq_true rfl)⟩ [0, 1, 2, 3, 4, 5] [] (by decide : ([0, 1, 2, 3, 4, 5] ++ ([] : List Nat)).Perm (List.range 6)) rfl rfl 182 rfl (fun v0 R0 t0 ht0 hp0 => ?_)
      obtain ⟨rfl, wO_179, hwO_179, wA_179, hwA_179, wB_179, hwB_179, wL_179, hwL_179, wH_179, hwH_179, rfl⟩ := hp0
      refine q_eqs (st' := [.int (nI (k_er (k_rep ln (k_low w ln.length) (k_la ln (k_low w ln.length)).2)))]) rfl ?_
      refine q_eqR (Rs' := [wX, wO_179, wA_179, wB_179, wL_179, wH_179]) rfl ?_
      exact q_iret C B dL_act_182 rfl rfl (fun t0 ht0 => ⟨rfl, _, hwO_179, _, hwA_179, _, hwB_179, _, hwL_179, _, hwH_179, by first | rfl | simp⟩)

set_option maxHeartbeats 400000 in
set_option maxRecDepth 100000 in
theorem c_L_act_t0 (l : Launch) {D : va_G} {tys : List (ClassId × FieldType)} {Z : (Nat → Prop) → State → Heap → Prop} (hZ : q_St Z) {cI : ClassId} (hI : tys[0]? = some (cI, .int)) (hN : q_Ns Z) {cG : ClassId} (hG : tys[1]? = some (cG, .object "SortCases$State")) {tL tH : Nat} (hVs : q_Vs Z tL tH) (h0 : Nat) (aO : Nat) (aY : Nat) (aN : Nat) (hsn : Int32) (aT : Nat) (aK : Nat) (wX : va_W) (hX : k_isX cI h0 aO aY aN hsn aT aK wX) (aB : Nat) (aL : Nat) (aS : Nat) (sc : Nat → Int32) (wO : va_W) (hO : k_isO cI aO aB aL aS sc wO) (wA : va_W) (hA : k_isA cI aS sc wA) (bx : k_Bx) (at0 : Nat) (wB : va_W) (hB : k_isB cI aB bx at0 wB) (ln : List (Nat × Nat)) (wL : va_W) (hL : k_isL cI aL ln wL) (sv : List k_S) (wH : va_W) (hH : k_isH cG cI aY sv wH) (v : Int32) (w : Int32) (hIv : k_Iv (bx, at0, ln, sc)) (h2 : sc 2 = nI 0 ∨ sc 2 = nI 1) (hj : k_jj v = 10) (hl8 : 8 < ln.length) : q_Ct l D tys Z yL_act wsL_act ({ frames := 9, cells := 0, slots := 0, locals := 282 } : Room) 0 0 [.ref h0, .int v, .int w] [wX, wO, wA, wB, wL, wH] (fun v0 R0 _ => v0 = some (.int (-9)) ∧ R0 = [wX, wO, wA, wB, wL, wH]) := by
  have hcI := hI
  have hcG := hG
  refine q_ct (cc := cL_act) (maxL := 6) (ret := (some .int)) (own := RL) (by decide) rfl hZ (Nat.le_of_ble_eq_true rfl) rfl ?_
  intro p9 e9 R s9 m9 args below meth c9 A Q C B
  have hts := C.2.2.2.2.1
  refine q_eqL (L' := [(0, .ref h0), (1, .int v), (2, .int w)]) rfl ?_
  have hll := hL.1.1
  have hok := hB.2.1
  have hcs := k_Cv_cs (S := (bx, at0, ln, sc)) hIv.2
  have hws := k_Cv_ws (S := (bx, at0, ln, sc)) hok hIv.2
  have hbw := k_b20_lt w
  have hlt := k_let_lt w
  have hwnl := k_wn_le bx ln sc (k_let w)
  have hj16 := k_jj_lt v
  refine q_iload_n C dL_act_0 1 2 rfl rfl ?_
  refine q_iload_n C dL_act_1 2 2 rfl rfl ?_
  refine q_bipush (v := nI 20) C dL_act_2 4 rfl (by decide) ?_
  refine q_ishr (v := w >>> 20) C dL_act_4 5 rfl (by rw [show nI 20 &&& 31 = (20 : Int32) by decide]) ?_
  refine q_iconst (v := nI 1) C dL_act_5 6 rfl (by decide) ?_
  refine q_iand (v := nI ((k_b20 w))) C dL_act_6 7 rfl (pk_and (w >>> 20) 1 (by decide)) ?_
  refine q_if_ne C dL_act_7 10 14 rfl (by decide) (q_eq0 (by omega)) (fun h7 => ?_) (fun h7 => ?_)
  · refine q_bipush (v := nI 12) C dL_act_14 16 rfl (by decide) ?_
    refine q_callS (n := 2) (rest := []) (Rr := [wX, wO, wA, wB, wL, wH]) C (c_L_low l hZ hI w 12 (by omega) (by omega)) gL_act_L_low rfl rfl rfl (by decide +kernel) B.1 ⟨Nat.le_of_ble_eq_true rfl, Nat.le_of_ble_eq_true rfl⟩ rfl rfl (Nat.le_of_ble_eq_true rfl) dL_act_16 ⟨(Nat.le_of_ble_eq_true rfl), (Nat.le_of_ble_eq_true rfl)⟩ [] [0, 1, 2, 3, 4, 5] (by decide : ([] ++ ([0, 1, 2, 3, 4, 5] : List Nat)).Perm (List.range 6)) rfl rfl 19 rfl (fun v0 R0 t0 ht0 hp0 => ?_)
    obtain ⟨rfl, rfl⟩ := hp0
    refine q_eqs (st' := [.int (nI (k_low w 12))]) rfl ?_
    refine q_eqR (Rs' := [wX, wO, wA, wB, wL, wH]) rfl ?_
    have hlw16 : k_low w 12 < 12 := k_low_lt (by omega)
    refine q_istore_n C dL_act_19 20 rfl [(3, .int (nI (k_low w 12))), (0, .ref h0), (1, .int v), (2, .int w)] (by decide) rfl ?_
    refine q_iload_n C dL_act_20 21 2 rfl rfl ?_
    refine q_bipush (v := nI 15) C dL_act_21 23 rfl (by decide) ?_
    refine q_iand (v := nI ((k_jj v))) C dL_act_23 24 rfl (pk_and v 4 (by decide)) ?_
    obtain ⟨j, hjv⟩ : ∃ j, j = k_jj v := ⟨_, rfl⟩
    refine q_eqs (st' := [.int (nI j)]) (by rw [hjv]) ?_
    rcases (by omega : j = 10) with rfl
    · refine q_tableIn C dL_act_24 183 (by decide) (by decide) rfl (by decide) ?_
      refine q_aload_n C dL_act_183 184 1 rfl rfl ?_
      refine q_iconst (v := nI 0) C dL_act_184 185 rfl (by decide) ?_
      refine q_callV (k := 0) (ci := 5) (n := 1) (rest := []) (Rr := []) C rfl (k_isX_recv hX) rfl (c_X6_count_h l hZ hI hN hG h0 aO aY aN hsn aT aK wX hX aB aL aS sc wO hO wA hA bx at0 wB hB ln wL hL sv wH hH 0 (by omega) hcs hws) gL_act_X6_count rfl rfl rfl (by decide +kernel) B.1 ⟨Nat.le_of_ble_eq_true rfl, Nat.le_of_ble_eq_true rfl⟩ rfl rfl (Nat.le_of_ble_eq_true rfl) dL_act_185 ⟨(Nat.le_of_ble_eq_true rfl), (Nat.le_of_ble_eq_true rfl)⟩ [0, 1, 2, 3, 4, 5] [] (by decide : ([0, 1, 2, 3, 4, 5] ++ ([] : List Nat)).Perm (List.range 6)) rfl rfl 188 rfl (fun v0 R0 t0 ht0 hp0 => ?_)
      obtain ⟨rfl, rfl⟩ := hp0
      refine q_eqs (st' := [.int (k_tc bx at0 ln sc sv.length 0)]) rfl ?_
      refine q_eqR (Rs' := [wX, wO, wA, wB, wL, wH]) rfl ?_
      refine q_eqs (st' := [.int (nI ln.length)]) (by rw [show k_tc bx at0 ln sc sv.length 0 = nI ln.length from rfl]) ?_
      refine q_bipush (v := nI 8) C dL_act_188 190 rfl (by decide) ?_
      refine q_icmp_le C dL_act_190 193 198 rfl (by decide) (nI_leI (by omega) (by omega)) (fun h190 => False.elim (by first | omega | simp_all)) (fun h190 => ?_)
      refine q_bipush (v := -9) C dL_act_193 195 rfl (by decide) ?_
      refine q_goto C dL_act_195 215 (by decide) ?_
      exact q_iret C B dL_act_215 rfl rfl (fun t0 ht0 => ⟨rfl, rfl⟩)
  · refine q_iconst (v := nI 4) C dL_act_10 11 rfl (by decide) ?_
    refine q_goto C dL_act_11 16 (by decide) ?_
    refine q_callS (n := 2) (rest := []) (Rr := [wX, wO, wA, wB, wL, wH]) C (c_L_low l hZ hI w 4 (by omega) (by omega)) gL_act_L_low rfl rfl rfl (by decide +kernel) B.1 ⟨Nat.le_of_ble_eq_true rfl, Nat.le_of_ble_eq_true rfl⟩ rfl rfl (Nat.le_of_ble_eq_true rfl) dL_act_16 ⟨(Nat.le_of_ble_eq_true rfl), (Nat.le_of_ble_eq_true rfl)⟩ [] [0, 1, 2, 3, 4, 5] (by decide : ([] ++ ([0, 1, 2, 3, 4, 5] : List Nat)).Perm (List.range 6)) rfl rfl 19 rfl (fun v0 R0 t0 ht0 hp0 => ?_)
    obtain ⟨rfl, rfl⟩ := hp0
    refine q_eqs (st' := [.int (nI (k_low w 4))]) rfl ?_
    refine q_eqR (Rs' := [wX, wO, wA, wB, wL, wH]) rfl ?_
    have hlw16 : k_low w 4 < 4 := k_low_lt (by omega)
    refine q_istore_n C dL_act_19 20 rfl [(3, .int (nI (k_low w 4))), (0, .ref h0), (1, .int v), (2, .int w)] (by decide) rfl ?_
    refine q_iload_n C dL_act_20 21 2 rfl rfl ?_
    refine q_bipush (v := nI 15) C dL_act_21 23 rfl (by decide) ?_
    refine q_iand (v := nI ((k_jj v))) C dL_act_23 24 rfl (pk_and v 4 (by decide)) ?_
    obtain ⟨j, hjv⟩ : ∃ j, j = k_jj v := ⟨_, rfl⟩
    refine q_eqs (st' := [.int (nI j)]) (by rw [hjv]) ?_
    rcases (by omega : j = 10) with rfl
    · refine q_tableIn C dL_act_24 183 (by decide) (by decide) rfl (by decide) ?_
      refine q_aload_n C dL_act_183 184 1 rfl rfl ?_
      refine q_iconst (v := nI 0) C dL_act_184 185 rfl (by decide) ?_
      refine q_callV (k := 0) (ci := 5) (n := 1) (rest := []) (Rr := []) C rfl (k_isX_recv hX) rfl (c_X6_count_h l hZ hI hN hG h0 aO aY aN hsn aT aK wX hX aB aL aS sc wO hO wA hA bx at0 wB hB ln wL hL sv wH hH 0 (by omega) hcs hws) gL_act_X6_count rfl rfl rfl (by decide +kernel) B.1 ⟨Nat.le_of_ble_eq_true rfl, Nat.le_of_ble_eq_true rfl⟩ rfl rfl (Nat.le_of_ble_eq_true rfl) dL_act_185 ⟨(Nat.le_of_ble_eq_true rfl), (Nat.le_of_ble_eq_true rfl)⟩ [0, 1, 2, 3, 4, 5] [] (by decide : ([0, 1, 2, 3, 4, 5] ++ ([] : List Nat)).Perm (List.range 6)) rfl rfl 188 rfl (fun v0 R0 t0 ht0 hp0 => ?_)
      obtain ⟨rfl, rfl⟩ := hp0
      refine q_eqs (st' := [.int (k_tc bx at0 ln sc sv.length 0)]) rfl ?_
      refine q_eqR (Rs' := [wX, wO, wA, wB, wL, wH]) rfl ?_
      refine q_eqs (st' := [.int (nI ln.length)]) (by rw [show k_tc bx at0 ln sc sv.length 0 = nI ln.length from rfl]) ?_
      refine q_bipush (v := nI 8) C dL_act_188 190 rfl (by decide) ?_
      refine q_icmp_le C dL_act_190 193 198 rfl (by decide) (nI_leI (by omega) (by omega)) (fun h190 => False.elim (by first | omega | simp_all)) (fun h190 => ?_)
      refine q_bipush (v := -9) C dL_act_193 195 rfl (by decide) ?_
      refine q_goto C dL_act_195 215 (by decide) ?_
      exact q_iret C B dL_act_215 rfl rfl (fun t0 ht0 => ⟨rfl, rfl⟩)

set_option maxHeartbeats 400000 in
set_option maxRecDepth 100000 in
theorem c_L_act_t1 (l : Launch) {D : va_G} {tys : List (ClassId × FieldType)} {Z : (Nat → Prop) → State → Heap → Prop} (hZ : q_St Z) {cI : ClassId} (hI : tys[0]? = some (cI, .int)) (hN : q_Ns Z) {cG : ClassId} (hG : tys[1]? = some (cG, .object "SortCases$State")) {tL tH : Nat} (hVs : q_Vs Z tL tH) (h0 : Nat) (aO : Nat) (aY : Nat) (aN : Nat) (hsn : Int32) (aT : Nat) (aK : Nat) (wX : va_W) (hX : k_isX cI h0 aO aY aN hsn aT aK wX) (aB : Nat) (aL : Nat) (aS : Nat) (sc : Nat → Int32) (wO : va_W) (hO : k_isO cI aO aB aL aS sc wO) (wA : va_W) (hA : k_isA cI aS sc wA) (bx : k_Bx) (at0 : Nat) (wB : va_W) (hB : k_isB cI aB bx at0 wB) (ln : List (Nat × Nat)) (wL : va_W) (hL : k_isL cI aL ln wL) (sv : List k_S) (wH : va_W) (hH : k_isH cG cI aY sv wH) (v : Int32) (w : Int32) (hIv : k_Iv (bx, at0, ln, sc)) (h2 : sc 2 = nI 0 ∨ sc 2 = nI 1) (hj : k_jj v = 10) (hl8 : ln.length ≤ 8) (hb : w.toBitVec.toNat % 2 = 0) (hwy : k_wy bx ln sc = 0) : q_Ct l D tys Z yL_act wsL_act ({ frames := 9, cells := 0, slots := 0, locals := 282 } : Room) 0 0 [.ref h0, .int v, .int w] [wX, wO, wA, wB, wL, wH] (fun v0 R0 _ => v0 = some (.int (nI (k_wr (k_rb bx ln sc (ln).length)))) ∧ ∃ wO', k_isO cI aO aB aL aS (upd (upd sc 9 (sc 9 + nI 1)) 3 (-1)) wO' ∧ ∃ wA', k_isA cI aS (upd (upd sc 9 (sc 9 + nI 1)) 3 (-1)) wA' ∧ ∃ wB', k_isB cI aB (k_rb bx ln sc (ln).length) at0 wB' ∧ ∃ wL', k_isL cI aL (([] : List (Nat × Nat))) wL' ∧ ∃ wH', k_isH cG cI aY ((k_sav sv (bx, at0, ln, sc))) wH' ∧ R0 = [wX, wO', wA', wB', wL', wH']) := by
  have hcI := hI
  have hcG := hG
  refine q_ct (cc := cL_act) (maxL := 6) (ret := (some .int)) (own := RL) (by decide) rfl hZ (Nat.le_of_ble_eq_true rfl) rfl ?_
  intro p9 e9 R s9 m9 args below meth c9 A Q C B
  have hts := C.2.2.2.2.1
  refine q_eqL (L' := [(0, .ref h0), (1, .int v), (2, .int w)]) rfl ?_
  have hll := hL.1.1
  have hok := hB.2.1
  have hcs := k_Cv_cs (S := (bx, at0, ln, sc)) hIv.2
  have hws := k_Cv_ws (S := (bx, at0, ln, sc)) hok hIv.2
  have hbw := k_b20_lt w
  have hlt := k_let_lt w
  have hwnl := k_wn_le bx ln sc (k_let w)
  have hj16 := k_jj_lt v
  refine q_iload_n C dL_act_0 1 2 rfl rfl ?_
  refine q_iload_n C dL_act_1 2 2 rfl rfl ?_
  refine q_bipush (v := nI 20) C dL_act_2 4 rfl (by decide) ?_
  refine q_ishr (v := w >>> 20) C dL_act_4 5 rfl (by rw [show nI 20 &&& 31 = (20 : Int32) by decide]) ?_
  refine q_iconst (v := nI 1) C dL_act_5 6 rfl (by decide) ?_
  refine q_iand (v := nI ((k_b20 w))) C dL_act_6 7 rfl (pk_and (w >>> 20) 1 (by decide)) ?_
  refine q_if_ne C dL_act_7 10 14 rfl (by decide) (q_eq0 (by omega)) (fun h7 => ?_) (fun h7 => ?_)
  · refine q_bipush (v := nI 12) C dL_act_14 16 rfl (by decide) ?_
    refine q_callS (n := 2) (rest := []) (Rr := [wX, wO, wA, wB, wL, wH]) C (c_L_low l hZ hI w 12 (by omega) (by omega)) gL_act_L_low rfl rfl rfl (by decide +kernel) B.1 ⟨Nat.le_of_ble_eq_true rfl, Nat.le_of_ble_eq_true rfl⟩ rfl rfl (Nat.le_of_ble_eq_true rfl) dL_act_16 ⟨(Nat.le_of_ble_eq_true rfl), (Nat.le_of_ble_eq_true rfl)⟩ [] [0, 1, 2, 3, 4, 5] (by decide : ([] ++ ([0, 1, 2, 3, 4, 5] : List Nat)).Perm (List.range 6)) rfl rfl 19 rfl (fun v0 R0 t0 ht0 hp0 => ?_)
    obtain ⟨rfl, rfl⟩ := hp0
    refine q_eqs (st' := [.int (nI (k_low w 12))]) rfl ?_
    refine q_eqR (Rs' := [wX, wO, wA, wB, wL, wH]) rfl ?_
    have hlw16 : k_low w 12 < 12 := k_low_lt (by omega)
    refine q_istore_n C dL_act_19 20 rfl [(3, .int (nI (k_low w 12))), (0, .ref h0), (1, .int v), (2, .int w)] (by decide) rfl ?_
    refine q_iload_n C dL_act_20 21 2 rfl rfl ?_
    refine q_bipush (v := nI 15) C dL_act_21 23 rfl (by decide) ?_
    refine q_iand (v := nI ((k_jj v))) C dL_act_23 24 rfl (pk_and v 4 (by decide)) ?_
    obtain ⟨j, hjv⟩ : ∃ j, j = k_jj v := ⟨_, rfl⟩
    refine q_eqs (st' := [.int (nI j)]) (by rw [hjv]) ?_
    rcases (by omega : j = 10) with rfl
    · refine q_tableIn C dL_act_24 183 (by decide) (by decide) rfl (by decide) ?_
      refine q_aload_n C dL_act_183 184 1 rfl rfl ?_
      refine q_iconst (v := nI 0) C dL_act_184 185 rfl (by decide) ?_
      refine q_callV (k := 0) (ci := 5) (n := 1) (rest := []) (Rr := []) C rfl (k_isX_recv hX) rfl (c_X6_count_h l hZ hI hN hG h0 aO aY aN hsn aT aK wX hX aB aL aS sc wO hO wA hA bx at0 wB hB ln wL hL sv wH hH 0 (by omega) hcs hws) gL_act_X6_count rfl rfl rfl (by decide +kernel) B.1 ⟨Nat.le_of_ble_eq_true rfl, Nat.le_of_ble_eq_true rfl⟩ rfl rfl (Nat.le_of_ble_eq_true rfl) dL_act_185 ⟨(Nat.le_of_ble_eq_true rfl), (Nat.le_of_ble_eq_true rfl)⟩ [0, 1, 2, 3, 4, 5] [] (by decide : ([0, 1, 2, 3, 4, 5] ++ ([] : List Nat)).Perm (List.range 6)) rfl rfl 188 rfl (fun v0 R0 t0 ht0 hp0 => ?_)
      obtain ⟨rfl, rfl⟩ := hp0
      refine q_eqs (st' := [.int (k_tc bx at0 ln sc sv.length 0)]) rfl ?_
      refine q_eqR (Rs' := [wX, wO, wA, wB, wL, wH]) rfl ?_
      refine q_eqs (st' := [.int (nI ln.length)]) (by rw [show k_tc bx at0 ln sc sv.length 0 = nI ln.length from rfl]) ?_
      refine q_bipush (v := nI 8) C dL_act_188 190 rfl (by decide) ?_
      refine q_icmp_le C dL_act_190 193 198 rfl (by decide) (nI_leI (by omega) (by omega)) (fun h190 => ?_) (fun h190 => False.elim (by first | omega | simp_all))
      refine q_iload_n C dL_act_198 199 3 rfl rfl ?_
      refine q_iconst (v := nI 1) C dL_act_199 200 rfl (by decide) ?_
      refine q_iand (v := nI ((w.toBitVec.toNat % 2))) C dL_act_200 201 rfl (pk_and w 1 (by decide)) ?_
      refine q_if_ne C dL_act_201 204 211 rfl (by decide) (q_eq0 (by omega)) (fun h201 => False.elim (by first | omega | simp_all)) (fun h201 => ?_)
      refine q_aload_n C dL_act_204 205 1 rfl rfl ?_
      refine q_callS (n := 1) (rest := []) (Rr := []) C (c_L_returns_ok l hZ hI hN hG h0 aO aY aN hsn aT aK wX hX aB aL aS sc wO hO wA hA bx at0 wB hB ln wL hL sv wH hH hcs hws h2 hwy) gL_act_L_returns rfl rfl rfl (by decide +kernel) B.1 ⟨Nat.le_of_ble_eq_true rfl, Nat.le_of_ble_eq_true rfl⟩ rfl rfl (Nat.le_of_ble_eq_true rfl) dL_act_205 ⟨(Nat.le_of_ble_eq_true rfl), (Nat.le_of_ble_eq_true rfl)⟩ [0, 1, 2, 3, 4, 5] [] (by decide : ([0, 1, 2, 3, 4, 5] ++ ([] : List Nat)).Perm (List.range 6)) rfl rfl 208 rfl (fun v0 R0 t0 ht0 hp0 => ?_)
      obtain ⟨rfl, wO_205, hwO_205, wA_205, hwA_205, wB_205, hwB_205, wL_205, hwL_205, wH_205, hwH_205, rfl⟩ := hp0
      refine q_eqs (st' := [.int (nI (k_wr (k_rb bx ln sc (ln).length)))]) rfl ?_
      refine q_eqR (Rs' := [wX, wO_205, wA_205, wB_205, wL_205, wH_205]) rfl ?_
      refine q_goto C dL_act_208 215 (by decide) ?_
      exact q_iret C B dL_act_215 rfl rfl (fun t0 ht0 => ⟨rfl, _, hwO_205, _, hwA_205, _, hwB_205, _, hwL_205, _, hwH_205, by first | rfl | simp⟩)
  · refine q_iconst (v := nI 4) C dL_act_10 11 rfl (by decide) ?_
    refine q_goto C dL_act_11 16 (by decide) ?_
    refine q_callS (n := 2) (rest := []) (Rr := [wX, wO, wA, wB, wL, wH]) C (c_L_low l hZ hI w 4 (by omega) (by omega)) gL_act_L_low rfl rfl rfl (by decide +kernel) B.1 ⟨Nat.le_of_ble_eq_true rfl, Nat.le_of_ble_eq_true rfl⟩ rfl rfl (Nat.le_of_ble_eq_true rfl) dL_act_16 ⟨(Nat.le_of_ble_eq_true rfl), (Nat.le_of_ble_eq_true rfl)⟩ [] [0, 1, 2, 3, 4, 5] (by decide : ([] ++ ([0, 1, 2, 3, 4, 5] : List Nat)).Perm (List.range 6)) rfl rfl 19 rfl (fun v0 R0 t0 ht0 hp0 => ?_)
    obtain ⟨rfl, rfl⟩ := hp0
    refine q_eqs (st' := [.int (nI (k_low w 4))]) rfl ?_
    refine q_eqR (Rs' := [wX, wO, wA, wB, wL, wH]) rfl ?_
    have hlw16 : k_low w 4 < 4 := k_low_lt (by omega)
    refine q_istore_n C dL_act_19 20 rfl [(3, .int (nI (k_low w 4))), (0, .ref h0), (1, .int v), (2, .int w)] (by decide) rfl ?_
    refine q_iload_n C dL_act_20 21 2 rfl rfl ?_
    refine q_bipush (v := nI 15) C dL_act_21 23 rfl (by decide) ?_
    refine q_iand (v := nI ((k_jj v))) C dL_act_23 24 rfl (pk_and v 4 (by decide)) ?_
    obtain ⟨j, hjv⟩ : ∃ j, j = k_jj v := ⟨_, rfl⟩
    refine q_eqs (st' := [.int (nI j)]) (by rw [hjv]) ?_
    rcases (by omega : j = 10) with rfl
    · refine q_tableIn C dL_act_24 183 (by decide) (by decide) rfl (by decide) ?_
      refine q_aload_n C dL_act_183 184 1 rfl rfl ?_
      refine q_iconst (v := nI 0) C dL_act_184 185 rfl (by decide) ?_
      refine q_callV (k := 0) (ci := 5) (n := 1) (rest := []) (Rr := []) C rfl (k_isX_recv hX) rfl (c_X6_count_h l hZ hI hN hG h0 aO aY aN hsn aT aK wX hX aB aL aS sc wO hO wA hA bx at0 wB hB ln wL hL sv wH hH 0 (by omega) hcs hws) gL_act_X6_count rfl rfl rfl (by decide +kernel) B.1 ⟨Nat.le_of_ble_eq_true rfl, Nat.le_of_ble_eq_true rfl⟩ rfl rfl (Nat.le_of_ble_eq_true rfl) dL_act_185 ⟨(Nat.le_of_ble_eq_true rfl), (Nat.le_of_ble_eq_true rfl)⟩ [0, 1, 2, 3, 4, 5] [] (by decide : ([0, 1, 2, 3, 4, 5] ++ ([] : List Nat)).Perm (List.range 6)) rfl rfl 188 rfl (fun v0 R0 t0 ht0 hp0 => ?_)
      obtain ⟨rfl, rfl⟩ := hp0
      refine q_eqs (st' := [.int (k_tc bx at0 ln sc sv.length 0)]) rfl ?_
      refine q_eqR (Rs' := [wX, wO, wA, wB, wL, wH]) rfl ?_
      refine q_eqs (st' := [.int (nI ln.length)]) (by rw [show k_tc bx at0 ln sc sv.length 0 = nI ln.length from rfl]) ?_
      refine q_bipush (v := nI 8) C dL_act_188 190 rfl (by decide) ?_
      refine q_icmp_le C dL_act_190 193 198 rfl (by decide) (nI_leI (by omega) (by omega)) (fun h190 => ?_) (fun h190 => False.elim (by first | omega | simp_all))
      refine q_iload_n C dL_act_198 199 3 rfl rfl ?_
      refine q_iconst (v := nI 1) C dL_act_199 200 rfl (by decide) ?_
      refine q_iand (v := nI ((w.toBitVec.toNat % 2))) C dL_act_200 201 rfl (pk_and w 1 (by decide)) ?_
      refine q_if_ne C dL_act_201 204 211 rfl (by decide) (q_eq0 (by omega)) (fun h201 => False.elim (by first | omega | simp_all)) (fun h201 => ?_)
      refine q_aload_n C dL_act_204 205 1 rfl rfl ?_
      refine q_callS (n := 1) (rest := []) (Rr := []) C (c_L_returns_ok l hZ hI hN hG h0 aO aY aN hsn aT aK wX hX aB aL aS sc wO hO wA hA bx at0 wB hB ln wL hL sv wH hH hcs hws h2 hwy) gL_act_L_returns rfl rfl rfl (by decide +kernel) B.1 ⟨Nat.le_of_ble_eq_true rfl, Nat.le_of_ble_eq_true rfl⟩ rfl rfl (Nat.le_of_ble_eq_true rfl) dL_act_205 ⟨(Nat.le_of_ble_eq_true rfl), (Nat.le_of_ble_eq_true rfl)⟩ [0, 1, 2, 3, 4, 5] [] (by decide : ([0, 1, 2, 3, 4, 5] ++ ([] : List Nat)).Perm (List.range 6)) rfl rfl 208 rfl (fun v0 R0 t0 ht0 hp0 => ?_)
      obtain ⟨rfl, wO_205, hwO_205, wA_205, hwA_205, wB_205, hwB_205, wL_205, hwL_205, wH_205, hwH_205, rfl⟩ := hp0
      refine q_eqs (st' := [.int (nI (k_wr (k_rb bx ln sc (ln).length)))]) rfl ?_
      refine q_eqR (Rs' := [wX, wO_205, wA_205, wB_205, wL_205, wH_205]) rfl ?_
      refine q_goto C dL_act_208 215 (by decide) ?_
      exact q_iret C B dL_act_215 rfl rfl (fun t0 ht0 => ⟨rfl, _, hwO_205, _, hwA_205, _, hwB_205, _, hwL_205, _, hwH_205, by first | rfl | simp⟩)

set_option maxHeartbeats 400000 in
set_option maxRecDepth 100000 in
theorem c_L_act_t2 (l : Launch) {D : va_G} {tys : List (ClassId × FieldType)} {Z : (Nat → Prop) → State → Heap → Prop} (hZ : q_St Z) {cI : ClassId} (hI : tys[0]? = some (cI, .int)) (hN : q_Ns Z) {cG : ClassId} (hG : tys[1]? = some (cG, .object "SortCases$State")) {tL tH : Nat} (hVs : q_Vs Z tL tH) (h0 : Nat) (aO : Nat) (aY : Nat) (aN : Nat) (hsn : Int32) (aT : Nat) (aK : Nat) (wX : va_W) (hX : k_isX cI h0 aO aY aN hsn aT aK wX) (aB : Nat) (aL : Nat) (aS : Nat) (sc : Nat → Int32) (wO : va_W) (hO : k_isO cI aO aB aL aS sc wO) (wA : va_W) (hA : k_isA cI aS sc wA) (bx : k_Bx) (at0 : Nat) (wB : va_W) (hB : k_isB cI aB bx at0 wB) (ln : List (Nat × Nat)) (wL : va_W) (hL : k_isL cI aL ln wL) (sv : List k_S) (wH : va_W) (hH : k_isH cG cI aY sv wH) (v : Int32) (w : Int32) (hIv : k_Iv (bx, at0, ln, sc)) (h2 : sc 2 = nI 0 ∨ sc 2 = nI 1) (hj : k_jj v = 10) (hl8 : ln.length ≤ 8) (hb : w.toBitVec.toNat % 2 = 0) (hwn : ¬ k_wy bx ln sc = 0) : q_Ct l D tys Z yL_act wsL_act ({ frames := 9, cells := 0, slots := 0, locals := 282 } : Room) 0 0 [.ref h0, .int v, .int w] [wX, wO, wA, wB, wL, wH] (fun v0 R0 _ => v0 = some (.int (-9)) ∧ R0 = [wX, wO, wA, wB, wL, wH]) := by
  have hcI := hI
  have hcG := hG
  refine q_ct (cc := cL_act) (maxL := 6) (ret := (some .int)) (own := RL) (by decide) rfl hZ (Nat.le_of_ble_eq_true rfl) rfl ?_
  intro p9 e9 R s9 m9 args below meth c9 A Q C B
  have hts := C.2.2.2.2.1
  refine q_eqL (L' := [(0, .ref h0), (1, .int v), (2, .int w)]) rfl ?_
  have hll := hL.1.1
  have hok := hB.2.1
  have hcs := k_Cv_cs (S := (bx, at0, ln, sc)) hIv.2
  have hws := k_Cv_ws (S := (bx, at0, ln, sc)) hok hIv.2
  have hbw := k_b20_lt w
  have hlt := k_let_lt w
  have hwnl := k_wn_le bx ln sc (k_let w)
  have hj16 := k_jj_lt v
  refine q_iload_n C dL_act_0 1 2 rfl rfl ?_
  refine q_iload_n C dL_act_1 2 2 rfl rfl ?_
  refine q_bipush (v := nI 20) C dL_act_2 4 rfl (by decide) ?_
  refine q_ishr (v := w >>> 20) C dL_act_4 5 rfl (by rw [show nI 20 &&& 31 = (20 : Int32) by decide]) ?_
  refine q_iconst (v := nI 1) C dL_act_5 6 rfl (by decide) ?_
  refine q_iand (v := nI ((k_b20 w))) C dL_act_6 7 rfl (pk_and (w >>> 20) 1 (by decide)) ?_
  refine q_if_ne C dL_act_7 10 14 rfl (by decide) (q_eq0 (by omega)) (fun h7 => ?_) (fun h7 => ?_)
  · refine q_bipush (v := nI 12) C dL_act_14 16 rfl (by decide) ?_
    refine q_callS (n := 2) (rest := []) (Rr := [wX, wO, wA, wB, wL, wH]) C (c_L_low l hZ hI w 12 (by omega) (by omega)) gL_act_L_low rfl rfl rfl (by decide +kernel) B.1 ⟨Nat.le_of_ble_eq_true rfl, Nat.le_of_ble_eq_true rfl⟩ rfl rfl (Nat.le_of_ble_eq_true rfl) dL_act_16 ⟨(Nat.le_of_ble_eq_true rfl), (Nat.le_of_ble_eq_true rfl)⟩ [] [0, 1, 2, 3, 4, 5] (by decide : ([] ++ ([0, 1, 2, 3, 4, 5] : List Nat)).Perm (List.range 6)) rfl rfl 19 rfl (fun v0 R0 t0 ht0 hp0 => ?_)
    obtain ⟨rfl, rfl⟩ := hp0
    refine q_eqs (st' := [.int (nI (k_low w 12))]) rfl ?_
    refine q_eqR (Rs' := [wX, wO, wA, wB, wL, wH]) rfl ?_
    have hlw16 : k_low w 12 < 12 := k_low_lt (by omega)
    refine q_istore_n C dL_act_19 20 rfl [(3, .int (nI (k_low w 12))), (0, .ref h0), (1, .int v), (2, .int w)] (by decide) rfl ?_
    refine q_iload_n C dL_act_20 21 2 rfl rfl ?_
    refine q_bipush (v := nI 15) C dL_act_21 23 rfl (by decide) ?_
    refine q_iand (v := nI ((k_jj v))) C dL_act_23 24 rfl (pk_and v 4 (by decide)) ?_
    obtain ⟨j, hjv⟩ : ∃ j, j = k_jj v := ⟨_, rfl⟩
    refine q_eqs (st' := [.int (nI j)]) (by rw [hjv]) ?_
    rcases (by omega : j = 10) with rfl
    · refine q_tableIn C dL_act_24 183 (by decide) (by decide) rfl (by decide) ?_
      refine q_aload_n C dL_act_183 184 1 rfl rfl ?_
      refine q_iconst (v := nI 0) C dL_act_184 185 rfl (by decide) ?_
      refine q_callV (k := 0) (ci := 5) (n := 1) (rest := []) (Rr := []) C rfl (k_isX_recv hX) rfl (c_X6_count_h l hZ hI hN hG h0 aO aY aN hsn aT aK wX hX aB aL aS sc wO hO wA hA bx at0 wB hB ln wL hL sv wH hH 0 (by omega) hcs hws) gL_act_X6_count rfl rfl rfl (by decide +kernel) B.1 ⟨Nat.le_of_ble_eq_true rfl, Nat.le_of_ble_eq_true rfl⟩ rfl rfl (Nat.le_of_ble_eq_true rfl) dL_act_185 ⟨(Nat.le_of_ble_eq_true rfl), (Nat.le_of_ble_eq_true rfl)⟩ [0, 1, 2, 3, 4, 5] [] (by decide : ([0, 1, 2, 3, 4, 5] ++ ([] : List Nat)).Perm (List.range 6)) rfl rfl 188 rfl (fun v0 R0 t0 ht0 hp0 => ?_)
      obtain ⟨rfl, rfl⟩ := hp0
      refine q_eqs (st' := [.int (k_tc bx at0 ln sc sv.length 0)]) rfl ?_
      refine q_eqR (Rs' := [wX, wO, wA, wB, wL, wH]) rfl ?_
      refine q_eqs (st' := [.int (nI ln.length)]) (by rw [show k_tc bx at0 ln sc sv.length 0 = nI ln.length from rfl]) ?_
      refine q_bipush (v := nI 8) C dL_act_188 190 rfl (by decide) ?_
      refine q_icmp_le C dL_act_190 193 198 rfl (by decide) (nI_leI (by omega) (by omega)) (fun h190 => ?_) (fun h190 => False.elim (by first | omega | simp_all))
      refine q_iload_n C dL_act_198 199 3 rfl rfl ?_
      refine q_iconst (v := nI 1) C dL_act_199 200 rfl (by decide) ?_
      refine q_iand (v := nI ((w.toBitVec.toNat % 2))) C dL_act_200 201 rfl (pk_and w 1 (by decide)) ?_
      refine q_if_ne C dL_act_201 204 211 rfl (by decide) (q_eq0 (by omega)) (fun h201 => False.elim (by first | omega | simp_all)) (fun h201 => ?_)
      refine q_aload_n C dL_act_204 205 1 rfl rfl ?_
      refine q_callS (n := 1) (rest := []) (Rr := []) C (c_L_returns_no l hZ hI hN hG h0 aO aY aN hsn aT aK wX hX aB aL aS sc wO hO wA hA bx at0 wB hB ln wL hL sv wH hH hcs hws h2 hwn) gL_act_L_returns rfl rfl rfl (by decide +kernel) B.1 ⟨Nat.le_of_ble_eq_true rfl, Nat.le_of_ble_eq_true rfl⟩ rfl rfl (Nat.le_of_ble_eq_true rfl) dL_act_205 ⟨(Nat.le_of_ble_eq_true rfl), (Nat.le_of_ble_eq_true rfl)⟩ [0, 1, 2, 3, 4, 5] [] (by decide : ([0, 1, 2, 3, 4, 5] ++ ([] : List Nat)).Perm (List.range 6)) rfl rfl 208 rfl (fun v0 R0 t0 ht0 hp0 => ?_)
      obtain ⟨rfl, rfl⟩ := hp0
      refine q_eqs (st' := [.int (-9)]) rfl ?_
      refine q_eqR (Rs' := [wX, wO, wA, wB, wL, wH]) rfl ?_
      refine q_goto C dL_act_208 215 (by decide) ?_
      exact q_iret C B dL_act_215 rfl rfl (fun t0 ht0 => ⟨rfl, rfl⟩)
  · refine q_iconst (v := nI 4) C dL_act_10 11 rfl (by decide) ?_
    refine q_goto C dL_act_11 16 (by decide) ?_
    refine q_callS (n := 2) (rest := []) (Rr := [wX, wO, wA, wB, wL, wH]) C (c_L_low l hZ hI w 4 (by omega) (by omega)) gL_act_L_low rfl rfl rfl (by decide +kernel) B.1 ⟨Nat.le_of_ble_eq_true rfl, Nat.le_of_ble_eq_true rfl⟩ rfl rfl (Nat.le_of_ble_eq_true rfl) dL_act_16 ⟨(Nat.le_of_ble_eq_true rfl), (Nat.le_of_ble_eq_true rfl)⟩ [] [0, 1, 2, 3, 4, 5] (by decide : ([] ++ ([0, 1, 2, 3, 4, 5] : List Nat)).Perm (List.range 6)) rfl rfl 19 rfl (fun v0 R0 t0 ht0 hp0 => ?_)
    obtain ⟨rfl, rfl⟩ := hp0
    refine q_eqs (st' := [.int (nI (k_low w 4))]) rfl ?_
    refine q_eqR (Rs' := [wX, wO, wA, wB, wL, wH]) rfl ?_
    have hlw16 : k_low w 4 < 4 := k_low_lt (by omega)
    refine q_istore_n C dL_act_19 20 rfl [(3, .int (nI (k_low w 4))), (0, .ref h0), (1, .int v), (2, .int w)] (by decide) rfl ?_
    refine q_iload_n C dL_act_20 21 2 rfl rfl ?_
    refine q_bipush (v := nI 15) C dL_act_21 23 rfl (by decide) ?_
    refine q_iand (v := nI ((k_jj v))) C dL_act_23 24 rfl (pk_and v 4 (by decide)) ?_
    obtain ⟨j, hjv⟩ : ∃ j, j = k_jj v := ⟨_, rfl⟩
    refine q_eqs (st' := [.int (nI j)]) (by rw [hjv]) ?_
    rcases (by omega : j = 10) with rfl
    · refine q_tableIn C dL_act_24 183 (by decide) (by decide) rfl (by decide) ?_
      refine q_aload_n C dL_act_183 184 1 rfl rfl ?_
      refine q_iconst (v := nI 0) C dL_act_184 185 rfl (by decide) ?_
      refine q_callV (k := 0) (ci := 5) (n := 1) (rest := []) (Rr := []) C rfl (k_isX_recv hX) rfl (c_X6_count_h l hZ hI hN hG h0 aO aY aN hsn aT aK wX hX aB aL aS sc wO hO wA hA bx at0 wB hB ln wL hL sv wH hH 0 (by omega) hcs hws) gL_act_X6_count rfl rfl rfl (by decide +kernel) B.1 ⟨Nat.le_of_ble_eq_true rfl, Nat.le_of_ble_eq_true rfl⟩ rfl rfl (Nat.le_of_ble_eq_true rfl) dL_act_185 ⟨(Nat.le_of_ble_eq_true rfl), (Nat.le_of_ble_eq_true rfl)⟩ [0, 1, 2, 3, 4, 5] [] (by decide : ([0, 1, 2, 3, 4, 5] ++ ([] : List Nat)).Perm (List.range 6)) rfl rfl 188 rfl (fun v0 R0 t0 ht0 hp0 => ?_)
      obtain ⟨rfl, rfl⟩ := hp0
      refine q_eqs (st' := [.int (k_tc bx at0 ln sc sv.length 0)]) rfl ?_
      refine q_eqR (Rs' := [wX, wO, wA, wB, wL, wH]) rfl ?_
      refine q_eqs (st' := [.int (nI ln.length)]) (by rw [show k_tc bx at0 ln sc sv.length 0 = nI ln.length from rfl]) ?_
      refine q_bipush (v := nI 8) C dL_act_188 190 rfl (by decide) ?_
      refine q_icmp_le C dL_act_190 193 198 rfl (by decide) (nI_leI (by omega) (by omega)) (fun h190 => ?_) (fun h190 => False.elim (by first | omega | simp_all))
      refine q_iload_n C dL_act_198 199 3 rfl rfl ?_
      refine q_iconst (v := nI 1) C dL_act_199 200 rfl (by decide) ?_
      refine q_iand (v := nI ((w.toBitVec.toNat % 2))) C dL_act_200 201 rfl (pk_and w 1 (by decide)) ?_
      refine q_if_ne C dL_act_201 204 211 rfl (by decide) (q_eq0 (by omega)) (fun h201 => False.elim (by first | omega | simp_all)) (fun h201 => ?_)
      refine q_aload_n C dL_act_204 205 1 rfl rfl ?_
      refine q_callS (n := 1) (rest := []) (Rr := []) C (c_L_returns_no l hZ hI hN hG h0 aO aY aN hsn aT aK wX hX aB aL aS sc wO hO wA hA bx at0 wB hB ln wL hL sv wH hH hcs hws h2 hwn) gL_act_L_returns rfl rfl rfl (by decide +kernel) B.1 ⟨Nat.le_of_ble_eq_true rfl, Nat.le_of_ble_eq_true rfl⟩ rfl rfl (Nat.le_of_ble_eq_true rfl) dL_act_205 ⟨(Nat.le_of_ble_eq_true rfl), (Nat.le_of_ble_eq_true rfl)⟩ [0, 1, 2, 3, 4, 5] [] (by decide : ([0, 1, 2, 3, 4, 5] ++ ([] : List Nat)).Perm (List.range 6)) rfl rfl 208 rfl (fun v0 R0 t0 ht0 hp0 => ?_)
      obtain ⟨rfl, rfl⟩ := hp0
      refine q_eqs (st' := [.int (-9)]) rfl ?_
      refine q_eqR (Rs' := [wX, wO, wA, wB, wL, wH]) rfl ?_
      refine q_goto C dL_act_208 215 (by decide) ?_
      exact q_iret C B dL_act_215 rfl rfl (fun t0 ht0 => ⟨rfl, rfl⟩)

set_option maxHeartbeats 400000 in
set_option maxRecDepth 100000 in
theorem c_L_act_t3 (l : Launch) {D : va_G} {tys : List (ClassId × FieldType)} {Z : (Nat → Prop) → State → Heap → Prop} (hZ : q_St Z) {cI : ClassId} (hI : tys[0]? = some (cI, .int)) (hN : q_Ns Z) {cG : ClassId} (hG : tys[1]? = some (cG, .object "SortCases$State")) {tL tH : Nat} (hVs : q_Vs Z tL tH) (h0 : Nat) (aO : Nat) (aY : Nat) (aN : Nat) (hsn : Int32) (aT : Nat) (aK : Nat) (wX : va_W) (hX : k_isX cI h0 aO aY aN hsn aT aK wX) (aB : Nat) (aL : Nat) (aS : Nat) (sc : Nat → Int32) (wO : va_W) (hO : k_isO cI aO aB aL aS sc wO) (wA : va_W) (hA : k_isA cI aS sc wA) (bx : k_Bx) (at0 : Nat) (wB : va_W) (hB : k_isB cI aB bx at0 wB) (ln : List (Nat × Nat)) (wL : va_W) (hL : k_isL cI aL ln wL) (sv : List k_S) (wH : va_W) (hH : k_isH cG cI aY sv wH) (naB : Nat) (naL : Nat) (naS : Nat) (nsc : Nat → Int32) (nwO : va_W) (nhO : k_isO cI aN naB naL naS nsc nwO) (nwA : va_W) (nhA : k_isA cI naS nsc nwA) (nbx : k_Bx) (nat0 : Nat) (nwB : va_W) (nhB : k_isB cI naB nbx nat0 nwB) (nln : List (Nat × Nat)) (nwL : va_W) (nhL : k_isL cI naL nln nwL) (v : Int32) (w : Int32) (hIv : k_Iv (bx, at0, ln, sc)) (h2 : sc 2 = nI 0 ∨ sc 2 = nI 1) (hj : k_jj v = 10) (hl8 : ln.length ≤ 8) (hb : ¬ w.toBitVec.toNat % 2 = 0) (hsn1 : hsn = nI 1) : q_Ct l D tys Z yL_act wsL_act ({ frames := 9, cells := 0, slots := 0, locals := 282 } : Room) 0 0 [.ref h0, .int v, .int w] [wX, wO, wA, wB, wL, wH, nwO, nwA, nwB, nwL] (fun v0 R0 _ => v0 = some (.int (nI nln.length)) ∧ ∃ wO', k_isO cI aO aB aL aS nsc wO' ∧ ∃ wA', k_isA cI aS nsc wA' ∧ ∃ wB', k_isB cI aB nbx nat0 wB' ∧ ∃ wL', k_isL cI aL nln wL' ∧ ∃ wH', k_isH cG cI aY ((k_sav sv (bx, at0, ln, sc))) wH' ∧ R0 = [wX, wO', wA', wB', wL', wH', nwO, nwA, nwB, nwL]) := by
  have hcI := hI
  have hcG := hG
  refine q_ct (cc := cL_act) (maxL := 6) (ret := (some .int)) (own := RL) (by decide) rfl hZ (Nat.le_of_ble_eq_true rfl) rfl ?_
  intro p9 e9 R s9 m9 args below meth c9 A Q C B
  have hts := C.2.2.2.2.1
  refine q_eqL (L' := [(0, .ref h0), (1, .int v), (2, .int w)]) rfl ?_
  have hll := hL.1.1
  have hok := hB.2.1
  have hcs := k_Cv_cs (S := (bx, at0, ln, sc)) hIv.2
  have hws := k_Cv_ws (S := (bx, at0, ln, sc)) hok hIv.2
  have hbw := k_b20_lt w
  have hlt := k_let_lt w
  have hwnl := k_wn_le bx ln sc (k_let w)
  have hj16 := k_jj_lt v
  refine q_iload_n C dL_act_0 1 2 rfl rfl ?_
  refine q_iload_n C dL_act_1 2 2 rfl rfl ?_
  refine q_bipush (v := nI 20) C dL_act_2 4 rfl (by decide) ?_
  refine q_ishr (v := w >>> 20) C dL_act_4 5 rfl (by rw [show nI 20 &&& 31 = (20 : Int32) by decide]) ?_
  refine q_iconst (v := nI 1) C dL_act_5 6 rfl (by decide) ?_
  refine q_iand (v := nI ((k_b20 w))) C dL_act_6 7 rfl (pk_and (w >>> 20) 1 (by decide)) ?_
  refine q_if_ne C dL_act_7 10 14 rfl (by decide) (q_eq0 (by omega)) (fun h7 => ?_) (fun h7 => ?_)
  · refine q_bipush (v := nI 12) C dL_act_14 16 rfl (by decide) ?_
    refine q_callS (n := 2) (rest := []) (Rr := [wX, wO, wA, wB, wL, wH, nwO, nwA, nwB, nwL]) C (c_L_low l hZ hI w 12 (by omega) (by omega)) gL_act_L_low rfl rfl rfl (by decide +kernel) B.1 ⟨Nat.le_of_ble_eq_true rfl, Nat.le_of_ble_eq_true rfl⟩ rfl rfl (Nat.le_of_ble_eq_true rfl) dL_act_16 ⟨(Nat.le_of_ble_eq_true rfl), (Nat.le_of_ble_eq_true rfl)⟩ [] [0, 1, 2, 3, 4, 5, 6, 7, 8, 9] (by decide : ([] ++ ([0, 1, 2, 3, 4, 5, 6, 7, 8, 9] : List Nat)).Perm (List.range 10)) rfl rfl 19 rfl (fun v0 R0 t0 ht0 hp0 => ?_)
    obtain ⟨rfl, rfl⟩ := hp0
    refine q_eqs (st' := [.int (nI (k_low w 12))]) rfl ?_
    refine q_eqR (Rs' := [wX, wO, wA, wB, wL, wH, nwO, nwA, nwB, nwL]) rfl ?_
    have hlw16 : k_low w 12 < 12 := k_low_lt (by omega)
    refine q_istore_n C dL_act_19 20 rfl [(3, .int (nI (k_low w 12))), (0, .ref h0), (1, .int v), (2, .int w)] (by decide) rfl ?_
    refine q_iload_n C dL_act_20 21 2 rfl rfl ?_
    refine q_bipush (v := nI 15) C dL_act_21 23 rfl (by decide) ?_
    refine q_iand (v := nI ((k_jj v))) C dL_act_23 24 rfl (pk_and v 4 (by decide)) ?_
    obtain ⟨j, hjv⟩ : ∃ j, j = k_jj v := ⟨_, rfl⟩
    refine q_eqs (st' := [.int (nI j)]) (by rw [hjv]) ?_
    rcases (by omega : j = 10) with rfl
    · refine q_tableIn C dL_act_24 183 (by decide) (by decide) rfl (by decide) ?_
      refine q_aload_n C dL_act_183 184 1 rfl rfl ?_
      refine q_iconst (v := nI 0) C dL_act_184 185 rfl (by decide) ?_
      refine q_callV (k := 0) (ci := 5) (n := 1) (rest := []) (Rr := [nwO, nwA, nwB, nwL]) C rfl (k_isX_recv hX) rfl (c_X6_count_h l hZ hI hN hG h0 aO aY aN hsn aT aK wX hX aB aL aS sc wO hO wA hA bx at0 wB hB ln wL hL sv wH hH 0 (by omega) hcs hws) gL_act_X6_count rfl rfl rfl (by decide +kernel) B.1 ⟨Nat.le_of_ble_eq_true rfl, Nat.le_of_ble_eq_true rfl⟩ rfl rfl (Nat.le_of_ble_eq_true rfl) dL_act_185 ⟨(Nat.le_of_ble_eq_true rfl), (Nat.le_of_ble_eq_true rfl)⟩ [0, 1, 2, 3, 4, 5] [6, 7, 8, 9] (by decide : ([0, 1, 2, 3, 4, 5] ++ ([6, 7, 8, 9] : List Nat)).Perm (List.range 10)) rfl rfl 188 rfl (fun v0 R0 t0 ht0 hp0 => ?_)
      obtain ⟨rfl, rfl⟩ := hp0
      refine q_eqs (st' := [.int (k_tc bx at0 ln sc sv.length 0)]) rfl ?_
      refine q_eqR (Rs' := [wX, wO, wA, wB, wL, wH, nwO, nwA, nwB, nwL]) rfl ?_
      refine q_eqs (st' := [.int (nI ln.length)]) (by rw [show k_tc bx at0 ln sc sv.length 0 = nI ln.length from rfl]) ?_
      refine q_bipush (v := nI 8) C dL_act_188 190 rfl (by decide) ?_
      refine q_icmp_le C dL_act_190 193 198 rfl (by decide) (nI_leI (by omega) (by omega)) (fun h190 => ?_) (fun h190 => False.elim (by first | omega | simp_all))
      refine q_iload_n C dL_act_198 199 3 rfl rfl ?_
      refine q_iconst (v := nI 1) C dL_act_199 200 rfl (by decide) ?_
      refine q_iand (v := nI ((w.toBitVec.toNat % 2))) C dL_act_200 201 rfl (pk_and w 1 (by decide)) ?_
      refine q_if_ne C dL_act_201 204 211 rfl (by decide) (q_eq0 (by omega)) (fun h201 => ?_) (fun h201 => False.elim (by first | omega | simp_all))
      refine q_aload_n C dL_act_211 212 1 rfl rfl ?_
      refine q_callV (k := 0) (ci := 5) (n := 0) (rest := []) (Rr := []) C rfl (k_isX_recv hX) rfl (c_X6_restore_b l hZ hI hN hG h0 aO aY aN hsn aT aK wX hX aB aL aS sc wO hO wA hA bx at0 wB hB ln wL hL sv wH hH naB naL naS nsc nwO nhO nwA nhA nbx nat0 nwB nhB nln nwL nhL hsn1) gL_act_X6_restore rfl rfl rfl (by decide +kernel) B.1 ⟨Nat.le_of_ble_eq_true rfl, Nat.le_of_ble_eq_true rfl⟩ rfl rfl (Nat.le_of_ble_eq_true rfl) dL_act_212 ⟨(Nat.le_of_ble_eq_true rfl), (Nat.le_of_ble_eq_true rfl)⟩ [0, 1, 2, 3, 4, 5, 6, 7, 8, 9] [] (by decide : ([0, 1, 2, 3, 4, 5, 6, 7, 8, 9] ++ ([] : List Nat)).Perm (List.range 10)) rfl rfl 215 rfl (fun v0 R0 t0 ht0 hp0 => ?_)
      obtain ⟨rfl, wO_212, hwO_212, wA_212, hwA_212, wB_212, hwB_212, wL_212, hwL_212, wH_212, hwH_212, rfl⟩ := hp0
      refine q_eqs (st' := [.int (nI nln.length)]) rfl ?_
      refine q_eqR (Rs' := [wX, wO_212, wA_212, wB_212, wL_212, wH_212, nwO, nwA, nwB, nwL]) rfl ?_
      exact q_iret C B dL_act_215 rfl rfl (fun t0 ht0 => ⟨rfl, _, hwO_212, _, hwA_212, _, hwB_212, _, hwL_212, _, hwH_212, by first | rfl | simp⟩)
  · refine q_iconst (v := nI 4) C dL_act_10 11 rfl (by decide) ?_
    refine q_goto C dL_act_11 16 (by decide) ?_
    refine q_callS (n := 2) (rest := []) (Rr := [wX, wO, wA, wB, wL, wH, nwO, nwA, nwB, nwL]) C (c_L_low l hZ hI w 4 (by omega) (by omega)) gL_act_L_low rfl rfl rfl (by decide +kernel) B.1 ⟨Nat.le_of_ble_eq_true rfl, Nat.le_of_ble_eq_true rfl⟩ rfl rfl (Nat.le_of_ble_eq_true rfl) dL_act_16 ⟨(Nat.le_of_ble_eq_true rfl), (Nat.le_of_ble_eq_true rfl)⟩ [] [0, 1, 2, 3, 4, 5, 6, 7, 8, 9] (by decide : ([] ++ ([0, 1, 2, 3, 4, 5, 6, 7, 8, 9] : List Nat)).Perm (List.range 10)) rfl rfl 19 rfl (fun v0 R0 t0 ht0 hp0 => ?_)
    obtain ⟨rfl, rfl⟩ := hp0
    refine q_eqs (st' := [.int (nI (k_low w 4))]) rfl ?_
    refine q_eqR (Rs' := [wX, wO, wA, wB, wL, wH, nwO, nwA, nwB, nwL]) rfl ?_
    have hlw16 : k_low w 4 < 4 := k_low_lt (by omega)
    refine q_istore_n C dL_act_19 20 rfl [(3, .int (nI (k_low w 4))), (0, .ref h0), (1, .int v), (2, .int w)] (by decide) rfl ?_
    refine q_iload_n C dL_act_20 21 2 rfl rfl ?_
    refine q_bipush (v := nI 15) C dL_act_21 23 rfl (by decide) ?_
    refine q_iand (v := nI ((k_jj v))) C dL_act_23 24 rfl (pk_and v 4 (by decide)) ?_
    obtain ⟨j, hjv⟩ : ∃ j, j = k_jj v := ⟨_, rfl⟩
    refine q_eqs (st' := [.int (nI j)]) (by rw [hjv]) ?_
    rcases (by omega : j = 10) with rfl
    · refine q_tableIn C dL_act_24 183 (by decide) (by decide) rfl (by decide) ?_
      refine q_aload_n C dL_act_183 184 1 rfl rfl ?_
      refine q_iconst (v := nI 0) C dL_act_184 185 rfl (by decide) ?_
      refine q_callV (k := 0) (ci := 5) (n := 1) (rest := []) (Rr := [nwO, nwA, nwB, nwL]) C rfl (k_isX_recv hX) rfl (c_X6_count_h l hZ hI hN hG h0 aO aY aN hsn aT aK wX hX aB aL aS sc wO hO wA hA bx at0 wB hB ln wL hL sv wH hH 0 (by omega) hcs hws) gL_act_X6_count rfl rfl rfl (by decide +kernel) B.1 ⟨Nat.le_of_ble_eq_true rfl, Nat.le_of_ble_eq_true rfl⟩ rfl rfl (Nat.le_of_ble_eq_true rfl) dL_act_185 ⟨(Nat.le_of_ble_eq_true rfl), (Nat.le_of_ble_eq_true rfl)⟩ [0, 1, 2, 3, 4, 5] [6, 7, 8, 9] (by decide : ([0, 1, 2, 3, 4, 5] ++ ([6, 7, 8, 9] : List Nat)).Perm (List.range 10)) rfl rfl 188 rfl (fun v0 R0 t0 ht0 hp0 => ?_)
      obtain ⟨rfl, rfl⟩ := hp0
      refine q_eqs (st' := [.int (k_tc bx at0 ln sc sv.length 0)]) rfl ?_
      refine q_eqR (Rs' := [wX, wO, wA, wB, wL, wH, nwO, nwA, nwB, nwL]) rfl ?_
      refine q_eqs (st' := [.int (nI ln.length)]) (by rw [show k_tc bx at0 ln sc sv.length 0 = nI ln.length from rfl]) ?_
      refine q_bipush (v := nI 8) C dL_act_188 190 rfl (by decide) ?_
      refine q_icmp_le C dL_act_190 193 198 rfl (by decide) (nI_leI (by omega) (by omega)) (fun h190 => ?_) (fun h190 => False.elim (by first | omega | simp_all))
      refine q_iload_n C dL_act_198 199 3 rfl rfl ?_
      refine q_iconst (v := nI 1) C dL_act_199 200 rfl (by decide) ?_
      refine q_iand (v := nI ((w.toBitVec.toNat % 2))) C dL_act_200 201 rfl (pk_and w 1 (by decide)) ?_
      refine q_if_ne C dL_act_201 204 211 rfl (by decide) (q_eq0 (by omega)) (fun h201 => ?_) (fun h201 => False.elim (by first | omega | simp_all))
      refine q_aload_n C dL_act_211 212 1 rfl rfl ?_
      refine q_callV (k := 0) (ci := 5) (n := 0) (rest := []) (Rr := []) C rfl (k_isX_recv hX) rfl (c_X6_restore_b l hZ hI hN hG h0 aO aY aN hsn aT aK wX hX aB aL aS sc wO hO wA hA bx at0 wB hB ln wL hL sv wH hH naB naL naS nsc nwO nhO nwA nhA nbx nat0 nwB nhB nln nwL nhL hsn1) gL_act_X6_restore rfl rfl rfl (by decide +kernel) B.1 ⟨Nat.le_of_ble_eq_true rfl, Nat.le_of_ble_eq_true rfl⟩ rfl rfl (Nat.le_of_ble_eq_true rfl) dL_act_212 ⟨(Nat.le_of_ble_eq_true rfl), (Nat.le_of_ble_eq_true rfl)⟩ [0, 1, 2, 3, 4, 5, 6, 7, 8, 9] [] (by decide : ([0, 1, 2, 3, 4, 5, 6, 7, 8, 9] ++ ([] : List Nat)).Perm (List.range 10)) rfl rfl 215 rfl (fun v0 R0 t0 ht0 hp0 => ?_)
      obtain ⟨rfl, wO_212, hwO_212, wA_212, hwA_212, wB_212, hwB_212, wL_212, hwL_212, wH_212, hwH_212, rfl⟩ := hp0
      refine q_eqs (st' := [.int (nI nln.length)]) rfl ?_
      refine q_eqR (Rs' := [wX, wO_212, wA_212, wB_212, wL_212, wH_212, nwO, nwA, nwB, nwL]) rfl ?_
      exact q_iret C B dL_act_215 rfl rfl (fun t0 ht0 => ⟨rfl, _, hwO_212, _, hwA_212, _, hwB_212, _, hwL_212, _, hwH_212, by first | rfl | simp⟩)

set_option maxHeartbeats 400000 in
set_option maxRecDepth 100000 in
theorem c_L_act_c (l : Launch) {D : va_G} {tys : List (ClassId × FieldType)} {Z : (Nat → Prop) → State → Heap → Prop} (hZ : q_St Z) {cI : ClassId} (hI : tys[0]? = some (cI, .int)) (hN : q_Ns Z) {cG : ClassId} (hG : tys[1]? = some (cG, .object "SortCases$State")) {tL tH : Nat} (hVs : q_Vs Z tL tH) (h0 : Nat) (aO : Nat) (aY : Nat) (aN : Nat) (hsn : Int32) (aT : Nat) (aK : Nat) (wX : va_W) (hX : k_isX cI h0 aO aY aN hsn aT aK wX) (aB : Nat) (aL : Nat) (aS : Nat) (sc : Nat → Int32) (wO : va_W) (hO : k_isO cI aO aB aL aS sc wO) (wA : va_W) (hA : k_isA cI aS sc wA) (bx : k_Bx) (at0 : Nat) (wB : va_W) (hB : k_isB cI aB bx at0 wB) (ln : List (Nat × Nat)) (wL : va_W) (hL : k_isL cI aL ln wL) (sv : List k_S) (wH : va_W) (hH : k_isH cG cI aY sv wH) (v : Int32) (w : Int32) (hIv : k_Iv (bx, at0, ln, sc)) (h2 : sc 2 = nI 0 ∨ sc 2 = nI 1) (hj : k_jj v = 11) : q_Ct l D tys Z yL_act wsL_act ({ frames := 9, cells := 0, slots := 0, locals := 282 } : Room) 0 0 [.ref h0, .int v, .int w] [wX, wO, wA, wB, wL, wH] (fun v0 R0 _ => v0 = some (.int (sc (k_low w 3))) ∧ ∃ wO', k_isO cI aO aB aL aS (upd (upd sc 3 (-1)) (k_low w 3) (nI (k_chv w (k_low w 3)))) wO' ∧ ∃ wA', k_isA cI aS (upd (upd sc 3 (-1)) (k_low w 3) (nI (k_chv w (k_low w 3)))) wA' ∧ ∃ wH', k_isH cG cI aY ((k_sav sv (bx, at0, ln, sc))) wH' ∧ R0 = [wX, wO', wA', wB, wL, wH']) := by
  have hcI := hI
  have hcG := hG
  refine q_ct (cc := cL_act) (maxL := 6) (ret := (some .int)) (own := RL) (by decide) rfl hZ (Nat.le_of_ble_eq_true rfl) rfl ?_
  intro p9 e9 R s9 m9 args below meth c9 A Q C B
  have hts := C.2.2.2.2.1
  refine q_eqL (L' := [(0, .ref h0), (1, .int v), (2, .int w)]) rfl ?_
  have hll := hL.1.1
  have hok := hB.2.1
  have hcs := k_Cv_cs (S := (bx, at0, ln, sc)) hIv.2
  have hws := k_Cv_ws (S := (bx, at0, ln, sc)) hok hIv.2
  have hbw := k_b20_lt w
  have hlt := k_let_lt w
  have hwnl := k_wn_le bx ln sc (k_let w)
  have hj16 := k_jj_lt v
  refine q_iload_n C dL_act_0 1 2 rfl rfl ?_
  refine q_iload_n C dL_act_1 2 2 rfl rfl ?_
  refine q_bipush (v := nI 20) C dL_act_2 4 rfl (by decide) ?_
  refine q_ishr (v := w >>> 20) C dL_act_4 5 rfl (by rw [show nI 20 &&& 31 = (20 : Int32) by decide]) ?_
  refine q_iconst (v := nI 1) C dL_act_5 6 rfl (by decide) ?_
  refine q_iand (v := nI ((k_b20 w))) C dL_act_6 7 rfl (pk_and (w >>> 20) 1 (by decide)) ?_
  refine q_if_ne C dL_act_7 10 14 rfl (by decide) (q_eq0 (by omega)) (fun h7 => ?_) (fun h7 => ?_)
  · refine q_bipush (v := nI 12) C dL_act_14 16 rfl (by decide) ?_
    refine q_callS (n := 2) (rest := []) (Rr := [wX, wO, wA, wB, wL, wH]) C (c_L_low l hZ hI w 12 (by omega) (by omega)) gL_act_L_low rfl rfl rfl (by decide +kernel) B.1 ⟨Nat.le_of_ble_eq_true rfl, Nat.le_of_ble_eq_true rfl⟩ rfl rfl (Nat.le_of_ble_eq_true rfl) dL_act_16 ⟨(Nat.le_of_ble_eq_true rfl), (Nat.le_of_ble_eq_true rfl)⟩ [] [0, 1, 2, 3, 4, 5] (by decide : ([] ++ ([0, 1, 2, 3, 4, 5] : List Nat)).Perm (List.range 6)) rfl rfl 19 rfl (fun v0 R0 t0 ht0 hp0 => ?_)
    obtain ⟨rfl, rfl⟩ := hp0
    refine q_eqs (st' := [.int (nI (k_low w 12))]) rfl ?_
    refine q_eqR (Rs' := [wX, wO, wA, wB, wL, wH]) rfl ?_
    have hlw16 : k_low w 12 < 12 := k_low_lt (by omega)
    refine q_istore_n C dL_act_19 20 rfl [(3, .int (nI (k_low w 12))), (0, .ref h0), (1, .int v), (2, .int w)] (by decide) rfl ?_
    refine q_iload_n C dL_act_20 21 2 rfl rfl ?_
    refine q_bipush (v := nI 15) C dL_act_21 23 rfl (by decide) ?_
    refine q_iand (v := nI ((k_jj v))) C dL_act_23 24 rfl (pk_and v 4 (by decide)) ?_
    obtain ⟨j, hjv⟩ : ∃ j, j = k_jj v := ⟨_, rfl⟩
    refine q_eqs (st' := [.int (nI j)]) (by rw [hjv]) ?_
    rcases (by omega : j = 11) with rfl
    · refine q_tableIn C dL_act_24 216 (by decide) (by decide) rfl (by decide) ?_
      refine q_iload_n C dL_act_216 217 3 rfl rfl ?_
      refine q_iconst (v := nI 3) C dL_act_217 218 rfl (by decide) ?_
      refine q_callS (n := 2) (rest := []) (Rr := [wX, wO, wA, wB, wL, wH]) C (c_L_low l hZ hI w 3 (by omega) (by omega)) gL_act_L_low rfl rfl rfl (by decide +kernel) B.1 ⟨Nat.le_of_ble_eq_true rfl, Nat.le_of_ble_eq_true rfl⟩ rfl rfl (Nat.le_of_ble_eq_true rfl) dL_act_218 ⟨(Nat.le_of_ble_eq_true rfl), (Nat.le_of_ble_eq_true rfl)⟩ [] [0, 1, 2, 3, 4, 5] (by decide : ([] ++ ([0, 1, 2, 3, 4, 5] : List Nat)).Perm (List.range 6)) rfl rfl 221 rfl (fun v0 R0 t0 ht0 hp0 => ?_)
      obtain ⟨rfl, rfl⟩ := hp0
      refine q_eqs (st' := [.int (nI (k_low w 3))]) rfl ?_
      refine q_eqR (Rs' := [wX, wO, wA, wB, wL, wH]) rfl ?_
      have hlw218 : k_low w 3 < 3 := k_low_lt (by omega)
      refine q_istore C dL_act_221 223 rfl [(5, .int (nI (k_low w 3))), (3, .int (nI (k_low w 12))), (0, .ref h0), (1, .int v), (2, .int w)] (by decide) rfl ?_
      refine q_aload_n C dL_act_223 224 2 rfl rfl ?_
      refine q_iload C dL_act_224 226 0 rfl rfl ?_
      refine q_iload C dL_act_226 228 0 rfl rfl ?_
      refine q_if_ne C dL_act_228 231 245 rfl (by decide) (q_eq0 (by omega)) (fun h228 => ?_) (fun h228 => ?_)
      · refine q_iload C dL_act_245 247 0 rfl rfl ?_
        refine q_iconst (v := nI 1) C dL_act_247 248 rfl (by decide) ?_
        refine q_icmp_ne C dL_act_248 251 261 rfl (by decide) (nI_eq (by omega) (by omega)) (fun h248 => ?_) (fun h248 => ?_)
        · refine q_iload_n C dL_act_261 262 4 rfl rfl ?_
          refine q_iconst (v := nI 2) C dL_act_262 263 rfl (by decide) ?_
          refine q_ishr (v := w >>> 2) C dL_act_263 264 rfl (by rw [show nI 2 &&& 31 = (2 : Int32) by decide]) ?_
          refine q_iconst (v := nI 1) C dL_act_264 265 rfl (by decide) ?_
          refine q_iand (v := nI (((w >>> 2).toBitVec.toNat % 2))) C dL_act_265 266 rfl (pk_and (w >>> 2) 1 (by decide)) ?_
          refine q_eqs (st' := [.int (nI (k_chv w (k_low w 3))), .int (nI (k_low w 3)), .ref h0]) (by rw [show k_chv w (k_low w 3) = (w >>> 2).toBitVec.toNat % 2 from by rw [show k_low w 3 = 2 by omega]; rfl]) ?_
          refine q_callV (k := 0) (ci := 5) (n := 2) (rest := []) (Rr := []) C rfl (k_isX_recv hX) rfl (c_X6_change_c l hZ hI hG hVs h0 aO aY aN hsn aT aK wX hX aB aL aS sc wO hO wA hA bx at0 wB hB ln wL hL sv wH hH (k_low w 3) (nI (k_chv w (k_low w 3))) (by omega) (k_chv_ok w (k_low w 3) (by omega))) gL_act_X6_change rfl rfl rfl (by decide +kernel) B.1 ⟨Nat.le_of_ble_eq_true rfl, Nat.le_of_ble_eq_true rfl⟩ rfl rfl (Nat.le_of_ble_eq_true rfl) dL_act_266 ⟨(Nat.le_of_ble_eq_true rfl), (Nat.le_of_ble_eq_true rfl)⟩ [0, 1, 2, 3, 4, 5] [] (by decide : ([0, 1, 2, 3, 4, 5] ++ ([] : List Nat)).Perm (List.range 6)) rfl rfl 269 rfl (fun v0 R0 t0 ht0 hp0 => ?_)
          obtain ⟨rfl, wO_266, hwO_266, wA_266, hwA_266, wH_266, hwH_266, rfl⟩ := hp0
          refine q_eqs (st' := [.int (sc (k_low w 3))]) rfl ?_
          refine q_eqR (Rs' := [wX, wO_266, wA_266, wB, wL, wH_266]) rfl ?_
          exact q_iret C B dL_act_269 rfl rfl (fun t0 ht0 => ⟨rfl, _, hwO_266, _, hwA_266, _, hwH_266, by first | rfl | simp⟩)
        · refine q_iload_n C dL_act_251 252 4 rfl rfl ?_
          refine q_iconst (v := nI 2) C dL_act_252 253 rfl (by decide) ?_
          refine q_ishr (v := w >>> 2) C dL_act_253 254 rfl (by rw [show nI 2 &&& 31 = (2 : Int32) by decide]) ?_
          refine q_iconst (v := nI 5) C dL_act_254 255 rfl (by decide) ?_
          refine q_callS (n := 2) (rest := [.int (nI (k_low w 3)), .ref h0]) (Rr := [wX, wO, wA, wB, wL, wH]) C (c_L_low l hZ hI (w >>> 2) 5 (by omega) (by omega)) gL_act_L_low rfl rfl rfl (by decide +kernel) B.1 ⟨Nat.le_of_ble_eq_true rfl, Nat.le_of_ble_eq_true rfl⟩ rfl rfl (Nat.le_of_ble_eq_true rfl) dL_act_255 ⟨(Nat.le_of_ble_eq_true rfl), (Nat.le_of_ble_eq_true rfl)⟩ [] [0, 1, 2, 3, 4, 5] (by decide : ([] ++ ([0, 1, 2, 3, 4, 5] : List Nat)).Perm (List.range 6)) rfl rfl 258 rfl (fun v0 R0 t0 ht0 hp0 => ?_)
          obtain ⟨rfl, rfl⟩ := hp0
          refine q_eqs (st' := [.int (nI (k_low (w >>> 2) 5)), .int (nI (k_low w 3)), .ref h0]) rfl ?_
          refine q_eqR (Rs' := [wX, wO, wA, wB, wL, wH]) rfl ?_
          have hlw255 : k_low (w >>> 2) 5 < 5 := k_low_lt (by omega)
          refine q_goto C dL_act_258 266 (by decide) ?_
          refine q_eqs (st' := [.int (nI (k_chv w (k_low w 3))), .int (nI (k_low w 3)), .ref h0]) (by rw [show k_chv w (k_low w 3) = k_low (w >>> 2) 5 from by rw [show k_low w 3 = 1 by omega]; rfl]) ?_
          refine q_callV (k := 0) (ci := 5) (n := 2) (rest := []) (Rr := []) C rfl (k_isX_recv hX) rfl (c_X6_change_c l hZ hI hG hVs h0 aO aY aN hsn aT aK wX hX aB aL aS sc wO hO wA hA bx at0 wB hB ln wL hL sv wH hH (k_low w 3) (nI (k_chv w (k_low w 3))) (by omega) (k_chv_ok w (k_low w 3) (by omega))) gL_act_X6_change rfl rfl rfl (by decide +kernel) B.1 ⟨Nat.le_of_ble_eq_true rfl, Nat.le_of_ble_eq_true rfl⟩ rfl rfl (Nat.le_of_ble_eq_true rfl) dL_act_266 ⟨(Nat.le_of_ble_eq_true rfl), (Nat.le_of_ble_eq_true rfl)⟩ [0, 1, 2, 3, 4, 5] [] (by decide : ([0, 1, 2, 3, 4, 5] ++ ([] : List Nat)).Perm (List.range 6)) rfl rfl 269 rfl (fun v0 R0 t0 ht0 hp0 => ?_)
          obtain ⟨rfl, wO_266, hwO_266, wA_266, hwA_266, wH_266, hwH_266, rfl⟩ := hp0
          refine q_eqs (st' := [.int (sc (k_low w 3))]) rfl ?_
          refine q_eqR (Rs' := [wX, wO_266, wA_266, wB, wL, wH_266]) rfl ?_
          exact q_iret C B dL_act_269 rfl rfl (fun t0 ht0 => ⟨rfl, _, hwO_266, _, hwA_266, _, hwH_266, by first | rfl | simp⟩)
      · refine q_bipush (v := nI 20) C dL_act_231 233 rfl (by decide) ?_
        refine q_iload_n C dL_act_233 234 4 rfl rfl ?_
        refine q_iconst (v := nI 2) C dL_act_234 235 rfl (by decide) ?_
        refine q_ishr (v := w >>> 2) C dL_act_235 236 rfl (by rw [show nI 2 &&& 31 = (2 : Int32) by decide]) ?_
        refine q_bipush (v := nI 101) C dL_act_236 238 rfl (by decide) ?_
        refine q_callS (n := 2) (rest := [.int (nI 20), .int (nI (k_low w 3)), .ref h0]) (Rr := [wX, wO, wA, wB, wL, wH]) C (c_L_low l hZ hI (w >>> 2) 101 (by omega) (by omega)) gL_act_L_low rfl rfl rfl (by decide +kernel) B.1 ⟨Nat.le_of_ble_eq_true rfl, Nat.le_of_ble_eq_true rfl⟩ rfl rfl (Nat.le_of_ble_eq_true rfl) dL_act_238 ⟨(Nat.le_of_ble_eq_true rfl), (Nat.le_of_ble_eq_true rfl)⟩ [] [0, 1, 2, 3, 4, 5] (by decide : ([] ++ ([0, 1, 2, 3, 4, 5] : List Nat)).Perm (List.range 6)) rfl rfl 241 rfl (fun v0 R0 t0 ht0 hp0 => ?_)
        obtain ⟨rfl, rfl⟩ := hp0
        refine q_eqs (st' := [.int (nI (k_low (w >>> 2) 101)), .int (nI 20), .int (nI (k_low w 3)), .ref h0]) rfl ?_
        refine q_eqR (Rs' := [wX, wO, wA, wB, wL, wH]) rfl ?_
        have hlw238 : k_low (w >>> 2) 101 < 101 := k_low_lt (by omega)
        refine q_iadd (v := nI (k_low (w >>> 2) 101 + 20)) C dL_act_241 242 rfl (q_nadd (by omega)) ?_
        refine q_goto C dL_act_242 266 (by decide) ?_
        refine q_eqs (st' := [.int (nI (k_chv w (k_low w 3))), .int (nI (k_low w 3)), .ref h0]) (by rw [show k_chv w (k_low w 3) = k_low (w >>> 2) 101 + 20 from by rw [show k_low w 3 = 0 by omega]; exact Nat.add_comm _ _]) ?_
        refine q_callV (k := 0) (ci := 5) (n := 2) (rest := []) (Rr := []) C rfl (k_isX_recv hX) rfl (c_X6_change_c l hZ hI hG hVs h0 aO aY aN hsn aT aK wX hX aB aL aS sc wO hO wA hA bx at0 wB hB ln wL hL sv wH hH (k_low w 3) (nI (k_chv w (k_low w 3))) (by omega) (k_chv_ok w (k_low w 3) (by omega))) gL_act_X6_change rfl rfl rfl (by decide +kernel) B.1 ⟨Nat.le_of_ble_eq_true rfl, Nat.le_of_ble_eq_true rfl⟩ rfl rfl (Nat.le_of_ble_eq_true rfl) dL_act_266 ⟨(Nat.le_of_ble_eq_true rfl), (Nat.le_of_ble_eq_true rfl)⟩ [0, 1, 2, 3, 4, 5] [] (by decide : ([0, 1, 2, 3, 4, 5] ++ ([] : List Nat)).Perm (List.range 6)) rfl rfl 269 rfl (fun v0 R0 t0 ht0 hp0 => ?_)
        obtain ⟨rfl, wO_266, hwO_266, wA_266, hwA_266, wH_266, hwH_266, rfl⟩ := hp0
        refine q_eqs (st' := [.int (sc (k_low w 3))]) rfl ?_
        refine q_eqR (Rs' := [wX, wO_266, wA_266, wB, wL, wH_266]) rfl ?_
        exact q_iret C B dL_act_269 rfl rfl (fun t0 ht0 => ⟨rfl, _, hwO_266, _, hwA_266, _, hwH_266, by first | rfl | simp⟩)
  · refine q_iconst (v := nI 4) C dL_act_10 11 rfl (by decide) ?_
    refine q_goto C dL_act_11 16 (by decide) ?_
    refine q_callS (n := 2) (rest := []) (Rr := [wX, wO, wA, wB, wL, wH]) C (c_L_low l hZ hI w 4 (by omega) (by omega)) gL_act_L_low rfl rfl rfl (by decide +kernel) B.1 ⟨Nat.le_of_ble_eq_true rfl, Nat.le_of_ble_eq_true rfl⟩ rfl rfl (Nat.le_of_ble_eq_true rfl) dL_act_16 ⟨(Nat.le_of_ble_eq_true rfl), (Nat.le_of_ble_eq_true rfl)⟩ [] [0, 1, 2, 3, 4, 5] (by decide : ([] ++ ([0, 1, 2, 3, 4, 5] : List Nat)).Perm (List.range 6)) rfl rfl 19 rfl (fun v0 R0 t0 ht0 hp0 => ?_)
    obtain ⟨rfl, rfl⟩ := hp0
    refine q_eqs (st' := [.int (nI (k_low w 4))]) rfl ?_
    refine q_eqR (Rs' := [wX, wO, wA, wB, wL, wH]) rfl ?_
    have hlw16 : k_low w 4 < 4 := k_low_lt (by omega)
    refine q_istore_n C dL_act_19 20 rfl [(3, .int (nI (k_low w 4))), (0, .ref h0), (1, .int v), (2, .int w)] (by decide) rfl ?_
    refine q_iload_n C dL_act_20 21 2 rfl rfl ?_
    refine q_bipush (v := nI 15) C dL_act_21 23 rfl (by decide) ?_
    refine q_iand (v := nI ((k_jj v))) C dL_act_23 24 rfl (pk_and v 4 (by decide)) ?_
    obtain ⟨j, hjv⟩ : ∃ j, j = k_jj v := ⟨_, rfl⟩
    refine q_eqs (st' := [.int (nI j)]) (by rw [hjv]) ?_
    rcases (by omega : j = 11) with rfl
    · refine q_tableIn C dL_act_24 216 (by decide) (by decide) rfl (by decide) ?_
      refine q_iload_n C dL_act_216 217 3 rfl rfl ?_
      refine q_iconst (v := nI 3) C dL_act_217 218 rfl (by decide) ?_
      refine q_callS (n := 2) (rest := []) (Rr := [wX, wO, wA, wB, wL, wH]) C (c_L_low l hZ hI w 3 (by omega) (by omega)) gL_act_L_low rfl rfl rfl (by decide +kernel) B.1 ⟨Nat.le_of_ble_eq_true rfl, Nat.le_of_ble_eq_true rfl⟩ rfl rfl (Nat.le_of_ble_eq_true rfl) dL_act_218 ⟨(Nat.le_of_ble_eq_true rfl), (Nat.le_of_ble_eq_true rfl)⟩ [] [0, 1, 2, 3, 4, 5] (by decide : ([] ++ ([0, 1, 2, 3, 4, 5] : List Nat)).Perm (List.range 6)) rfl rfl 221 rfl (fun v0 R0 t0 ht0 hp0 => ?_)
      obtain ⟨rfl, rfl⟩ := hp0
      refine q_eqs (st' := [.int (nI (k_low w 3))]) rfl ?_
      refine q_eqR (Rs' := [wX, wO, wA, wB, wL, wH]) rfl ?_
      have hlw218 : k_low w 3 < 3 := k_low_lt (by omega)
      refine q_istore C dL_act_221 223 rfl [(5, .int (nI (k_low w 3))), (3, .int (nI (k_low w 4))), (0, .ref h0), (1, .int v), (2, .int w)] (by decide) rfl ?_
      refine q_aload_n C dL_act_223 224 2 rfl rfl ?_
      refine q_iload C dL_act_224 226 0 rfl rfl ?_
      refine q_iload C dL_act_226 228 0 rfl rfl ?_
      refine q_if_ne C dL_act_228 231 245 rfl (by decide) (q_eq0 (by omega)) (fun h228 => ?_) (fun h228 => ?_)
      · refine q_iload C dL_act_245 247 0 rfl rfl ?_
        refine q_iconst (v := nI 1) C dL_act_247 248 rfl (by decide) ?_
        refine q_icmp_ne C dL_act_248 251 261 rfl (by decide) (nI_eq (by omega) (by omega)) (fun h248 => ?_) (fun h248 => ?_)
        · refine q_iload_n C dL_act_261 262 4 rfl rfl ?_
          refine q_iconst (v := nI 2) C dL_act_262 263 rfl (by decide) ?_
          refine q_ishr (v := w >>> 2) C dL_act_263 264 rfl (by rw [show nI 2 &&& 31 = (2 : Int32) by decide]) ?_
          refine q_iconst (v := nI 1) C dL_act_264 265 rfl (by decide) ?_
          refine q_iand (v := nI (((w >>> 2).toBitVec.toNat % 2))) C dL_act_265 266 rfl (pk_and (w >>> 2) 1 (by decide)) ?_
          refine q_eqs (st' := [.int (nI (k_chv w (k_low w 3))), .int (nI (k_low w 3)), .ref h0]) (by rw [show k_chv w (k_low w 3) = (w >>> 2).toBitVec.toNat % 2 from by rw [show k_low w 3 = 2 by omega]; rfl]) ?_
          refine q_callV (k := 0) (ci := 5) (n := 2) (rest := []) (Rr := []) C rfl (k_isX_recv hX) rfl (c_X6_change_c l hZ hI hG hVs h0 aO aY aN hsn aT aK wX hX aB aL aS sc wO hO wA hA bx at0 wB hB ln wL hL sv wH hH (k_low w 3) (nI (k_chv w (k_low w 3))) (by omega) (k_chv_ok w (k_low w 3) (by omega))) gL_act_X6_change rfl rfl rfl (by decide +kernel) B.1 ⟨Nat.le_of_ble_eq_true rfl, Nat.le_of_ble_eq_true rfl⟩ rfl rfl (Nat.le_of_ble_eq_true rfl) dL_act_266 ⟨(Nat.le_of_ble_eq_true rfl), (Nat.le_of_ble_eq_true rfl)⟩ [0, 1, 2, 3, 4, 5] [] (by decide : ([0, 1, 2, 3, 4, 5] ++ ([] : List Nat)).Perm (List.range 6)) rfl rfl 269 rfl (fun v0 R0 t0 ht0 hp0 => ?_)
          obtain ⟨rfl, wO_266, hwO_266, wA_266, hwA_266, wH_266, hwH_266, rfl⟩ := hp0
          refine q_eqs (st' := [.int (sc (k_low w 3))]) rfl ?_
          refine q_eqR (Rs' := [wX, wO_266, wA_266, wB, wL, wH_266]) rfl ?_
          exact q_iret C B dL_act_269 rfl rfl (fun t0 ht0 => ⟨rfl, _, hwO_266, _, hwA_266, _, hwH_266, by first | rfl | simp⟩)
        · refine q_iload_n C dL_act_251 252 4 rfl rfl ?_
          refine q_iconst (v := nI 2) C dL_act_252 253 rfl (by decide) ?_
          refine q_ishr (v := w >>> 2) C dL_act_253 254 rfl (by rw [show nI 2 &&& 31 = (2 : Int32) by decide]) ?_
          refine q_iconst (v := nI 5) C dL_act_254 255 rfl (by decide) ?_
          refine q_callS (n := 2) (rest := [.int (nI (k_low w 3)), .ref h0]) (Rr := [wX, wO, wA, wB, wL, wH]) C (c_L_low l hZ hI (w >>> 2) 5 (by omega) (by omega)) gL_act_L_low rfl rfl rfl (by decide +kernel) B.1 ⟨Nat.le_of_ble_eq_true rfl, Nat.le_of_ble_eq_true rfl⟩ rfl rfl (Nat.le_of_ble_eq_true rfl) dL_act_255 ⟨(Nat.le_of_ble_eq_true rfl), (Nat.le_of_ble_eq_true rfl)⟩ [] [0, 1, 2, 3, 4, 5] (by decide : ([] ++ ([0, 1, 2, 3, 4, 5] : List Nat)).Perm (List.range 6)) rfl rfl 258 rfl (fun v0 R0 t0 ht0 hp0 => ?_)
          obtain ⟨rfl, rfl⟩ := hp0
          refine q_eqs (st' := [.int (nI (k_low (w >>> 2) 5)), .int (nI (k_low w 3)), .ref h0]) rfl ?_
          refine q_eqR (Rs' := [wX, wO, wA, wB, wL, wH]) rfl ?_
          have hlw255 : k_low (w >>> 2) 5 < 5 := k_low_lt (by omega)
          refine q_goto C dL_act_258 266 (by decide) ?_
          refine q_eqs (st' := [.int (nI (k_chv w (k_low w 3))), .int (nI (k_low w 3)), .ref h0]) (by rw [show k_chv w (k_low w 3) = k_low (w >>> 2) 5 from by rw [show k_low w 3 = 1 by omega]; rfl]) ?_
          refine q_callV (k := 0) (ci := 5) (n := 2) (rest := []) (Rr := []) C rfl (k_isX_recv hX) rfl (c_X6_change_c l hZ hI hG hVs h0 aO aY aN hsn aT aK wX hX aB aL aS sc wO hO wA hA bx at0 wB hB ln wL hL sv wH hH (k_low w 3) (nI (k_chv w (k_low w 3))) (by omega) (k_chv_ok w (k_low w 3) (by omega))) gL_act_X6_change rfl rfl rfl (by decide +kernel) B.1 ⟨Nat.le_of_ble_eq_true rfl, Nat.le_of_ble_eq_true rfl⟩ rfl rfl (Nat.le_of_ble_eq_true rfl) dL_act_266 ⟨(Nat.le_of_ble_eq_true rfl), (Nat.le_of_ble_eq_true rfl)⟩ [0, 1, 2, 3, 4, 5] [] (by decide : ([0, 1, 2, 3, 4, 5] ++ ([] : List Nat)).Perm (List.range 6)) rfl rfl 269 rfl (fun v0 R0 t0 ht0 hp0 => ?_)
          obtain ⟨rfl, wO_266, hwO_266, wA_266, hwA_266, wH_266, hwH_266, rfl⟩ := hp0
          refine q_eqs (st' := [.int (sc (k_low w 3))]) rfl ?_
          refine q_eqR (Rs' := [wX, wO_266, wA_266, wB, wL, wH_266]) rfl ?_
          exact q_iret C B dL_act_269 rfl rfl (fun t0 ht0 => ⟨rfl, _, hwO_266, _, hwA_266, _, hwH_266, by first | rfl | simp⟩)
      · refine q_bipush (v := nI 20) C dL_act_231 233 rfl (by decide) ?_
        refine q_iload_n C dL_act_233 234 4 rfl rfl ?_
        refine q_iconst (v := nI 2) C dL_act_234 235 rfl (by decide) ?_
        refine q_ishr (v := w >>> 2) C dL_act_235 236 rfl (by rw [show nI 2 &&& 31 = (2 : Int32) by decide]) ?_
        refine q_bipush (v := nI 101) C dL_act_236 238 rfl (by decide) ?_
        refine q_callS (n := 2) (rest := [.int (nI 20), .int (nI (k_low w 3)), .ref h0]) (Rr := [wX, wO, wA, wB, wL, wH]) C (c_L_low l hZ hI (w >>> 2) 101 (by omega) (by omega)) gL_act_L_low rfl rfl rfl (by decide +kernel) B.1 ⟨Nat.le_of_ble_eq_true rfl, Nat.le_of_ble_eq_true rfl⟩ rfl rfl (Nat.le_of_ble_eq_true rfl) dL_act_238 ⟨(Nat.le_of_ble_eq_true rfl), (Nat.le_of_ble_eq_true rfl)⟩ [] [0, 1, 2, 3, 4, 5] (by decide : ([] ++ ([0, 1, 2, 3, 4, 5] : List Nat)).Perm (List.range 6)) rfl rfl 241 rfl (fun v0 R0 t0 ht0 hp0 => ?_)
        obtain ⟨rfl, rfl⟩ := hp0
        refine q_eqs (st' := [.int (nI (k_low (w >>> 2) 101)), .int (nI 20), .int (nI (k_low w 3)), .ref h0]) rfl ?_
        refine q_eqR (Rs' := [wX, wO, wA, wB, wL, wH]) rfl ?_
        have hlw238 : k_low (w >>> 2) 101 < 101 := k_low_lt (by omega)
        refine q_iadd (v := nI (k_low (w >>> 2) 101 + 20)) C dL_act_241 242 rfl (q_nadd (by omega)) ?_
        refine q_goto C dL_act_242 266 (by decide) ?_
        refine q_eqs (st' := [.int (nI (k_chv w (k_low w 3))), .int (nI (k_low w 3)), .ref h0]) (by rw [show k_chv w (k_low w 3) = k_low (w >>> 2) 101 + 20 from by rw [show k_low w 3 = 0 by omega]; exact Nat.add_comm _ _]) ?_
        refine q_callV (k := 0) (ci := 5) (n := 2) (rest := []) (Rr := []) C rfl (k_isX_recv hX) rfl (c_X6_change_c l hZ hI hG hVs h0 aO aY aN hsn aT aK wX hX aB aL aS sc wO hO wA hA bx at0 wB hB ln wL hL sv wH hH (k_low w 3) (nI (k_chv w (k_low w 3))) (by omega) (k_chv_ok w (k_low w 3) (by omega))) gL_act_X6_change rfl rfl rfl (by decide +kernel) B.1 ⟨Nat.le_of_ble_eq_true rfl, Nat.le_of_ble_eq_true rfl⟩ rfl rfl (Nat.le_of_ble_eq_true rfl) dL_act_266 ⟨(Nat.le_of_ble_eq_true rfl), (Nat.le_of_ble_eq_true rfl)⟩ [0, 1, 2, 3, 4, 5] [] (by decide : ([0, 1, 2, 3, 4, 5] ++ ([] : List Nat)).Perm (List.range 6)) rfl rfl 269 rfl (fun v0 R0 t0 ht0 hp0 => ?_)
        obtain ⟨rfl, wO_266, hwO_266, wA_266, hwA_266, wH_266, hwH_266, rfl⟩ := hp0
        refine q_eqs (st' := [.int (sc (k_low w 3))]) rfl ?_
        refine q_eqR (Rs' := [wX, wO_266, wA_266, wB, wL, wH_266]) rfl ?_
        exact q_iret C B dL_act_269 rfl rfl (fun t0 ht0 => ⟨rfl, _, hwO_266, _, hwA_266, _, hwH_266, by first | rfl | simp⟩)

set_option maxHeartbeats 400000 in
set_option maxRecDepth 100000 in
theorem c_L_act_w (l : Launch) {D : va_G} {tys : List (ClassId × FieldType)} {Z : (Nat → Prop) → State → Heap → Prop} (hZ : q_St Z) {cI : ClassId} (hI : tys[0]? = some (cI, .int)) (hN : q_Ns Z) {cG : ClassId} (hG : tys[1]? = some (cG, .object "SortCases$State")) {tL tH : Nat} (hVs : q_Vs Z tL tH) (h0 : Nat) (aO : Nat) (aY : Nat) (aN : Nat) (hsn : Int32) (aT : Nat) (aK : Nat) (wX : va_W) (hX : k_isX cI h0 aO aY aN hsn aT aK wX) (aB : Nat) (aL : Nat) (aS : Nat) (sc : Nat → Int32) (wO : va_W) (hO : k_isO cI aO aB aL aS sc wO) (wA : va_W) (hA : k_isA cI aS sc wA) (bx : k_Bx) (at0 : Nat) (wB : va_W) (hB : k_isB cI aB bx at0 wB) (ln : List (Nat × Nat)) (wL : va_W) (hL : k_isL cI aL ln wL) (sv : List k_S) (wH : va_W) (hH : k_isH cG cI aY sv wH) (v : Int32) (w : Int32) (hIv : k_Iv (bx, at0, ln, sc)) (h2 : sc 2 = nI 0 ∨ sc 2 = nI 1) (hj : 12 ≤ k_jj v ∧ k_jj v < 16) : q_Ct l D tys Z yL_act wsL_act ({ frames := 9, cells := 0, slots := 0, locals := 282 } : Room) 0 0 [.ref h0, .int v, .int w] [wX, wO, wA, wB, wL, wH] (fun v0 R0 _ => v0 = some (.int (nI (k_wr (k_ex bx (k_low w 12) (k_low (w >>> 4) 12))))) ∧ ∃ wO', k_isO cI aO aB aL aS (upd sc 3 (-1)) wO' ∧ ∃ wA', k_isA cI aS (upd sc 3 (-1)) wA' ∧ ∃ wB', k_isB cI aB (k_ex bx (k_low w 12) (k_low (w >>> 4) 12)) at0 wB' ∧ ∃ wH', k_isH cG cI aY ((k_sav sv (bx, at0, ln, sc))) wH' ∧ R0 = [wX, wO', wA', wB', wL, wH']) := by
  have hcI := hI
  have hcG := hG
  refine q_ct (cc := cL_act) (maxL := 6) (ret := (some .int)) (own := RL) (by decide) rfl hZ (Nat.le_of_ble_eq_true rfl) rfl ?_
  intro p9 e9 R s9 m9 args below meth c9 A Q C B
  have hts := C.2.2.2.2.1
  refine q_eqL (L' := [(0, .ref h0), (1, .int v), (2, .int w)]) rfl ?_
  have hll := hL.1.1
  have hok := hB.2.1
  have hcs := k_Cv_cs (S := (bx, at0, ln, sc)) hIv.2
  have hws := k_Cv_ws (S := (bx, at0, ln, sc)) hok hIv.2
  have hbw := k_b20_lt w
  have hlt := k_let_lt w
  have hwnl := k_wn_le bx ln sc (k_let w)
  have hj16 := k_jj_lt v
  refine q_iload_n C dL_act_0 1 2 rfl rfl ?_
  refine q_iload_n C dL_act_1 2 2 rfl rfl ?_
  refine q_bipush (v := nI 20) C dL_act_2 4 rfl (by decide) ?_
  refine q_ishr (v := w >>> 20) C dL_act_4 5 rfl (by rw [show nI 20 &&& 31 = (20 : Int32) by decide]) ?_
  refine q_iconst (v := nI 1) C dL_act_5 6 rfl (by decide) ?_
  refine q_iand (v := nI ((k_b20 w))) C dL_act_6 7 rfl (pk_and (w >>> 20) 1 (by decide)) ?_
  refine q_if_ne C dL_act_7 10 14 rfl (by decide) (q_eq0 (by omega)) (fun h7 => ?_) (fun h7 => ?_)
  · refine q_bipush (v := nI 12) C dL_act_14 16 rfl (by decide) ?_
    refine q_callS (n := 2) (rest := []) (Rr := [wX, wO, wA, wB, wL, wH]) C (c_L_low l hZ hI w 12 (by omega) (by omega)) gL_act_L_low rfl rfl rfl (by decide +kernel) B.1 ⟨Nat.le_of_ble_eq_true rfl, Nat.le_of_ble_eq_true rfl⟩ rfl rfl (Nat.le_of_ble_eq_true rfl) dL_act_16 ⟨(Nat.le_of_ble_eq_true rfl), (Nat.le_of_ble_eq_true rfl)⟩ [] [0, 1, 2, 3, 4, 5] (by decide : ([] ++ ([0, 1, 2, 3, 4, 5] : List Nat)).Perm (List.range 6)) rfl rfl 19 rfl (fun v0 R0 t0 ht0 hp0 => ?_)
    obtain ⟨rfl, rfl⟩ := hp0
    refine q_eqs (st' := [.int (nI (k_low w 12))]) rfl ?_
    refine q_eqR (Rs' := [wX, wO, wA, wB, wL, wH]) rfl ?_
    have hlw16 : k_low w 12 < 12 := k_low_lt (by omega)
    refine q_istore_n C dL_act_19 20 rfl [(3, .int (nI (k_low w 12))), (0, .ref h0), (1, .int v), (2, .int w)] (by decide) rfl ?_
    refine q_iload_n C dL_act_20 21 2 rfl rfl ?_
    refine q_bipush (v := nI 15) C dL_act_21 23 rfl (by decide) ?_
    refine q_iand (v := nI ((k_jj v))) C dL_act_23 24 rfl (pk_and v 4 (by decide)) ?_
    obtain ⟨j, hjv⟩ : ∃ j, j = k_jj v := ⟨_, rfl⟩
    refine q_eqs (st' := [.int (nI j)]) (by rw [hjv]) ?_
    rcases (by omega : j = 12 ∨ j = 13 ∨ j = 14 ∨ j = 15) with rfl | rfl | rfl | rfl
    · refine q_tableOut C dL_act_24 270 (by decide) (by decide) ?_
      refine q_aload_n C dL_act_270 271 1 rfl rfl ?_
      refine q_iload_n C dL_act_271 272 3 rfl rfl ?_
      refine q_bipush (v := nI 12) C dL_act_272 274 rfl (by decide) ?_
      refine q_callS (n := 2) (rest := [.ref h0]) (Rr := [wX, wO, wA, wB, wL, wH]) C (c_L_low l hZ hI w 12 (by omega) (by omega)) gL_act_L_low rfl rfl rfl (by decide +kernel) B.1 ⟨Nat.le_of_ble_eq_true rfl, Nat.le_of_ble_eq_true rfl⟩ rfl rfl (Nat.le_of_ble_eq_true rfl) dL_act_274 ⟨(Nat.le_of_ble_eq_true rfl), (Nat.le_of_ble_eq_true rfl)⟩ [] [0, 1, 2, 3, 4, 5] (by decide : ([] ++ ([0, 1, 2, 3, 4, 5] : List Nat)).Perm (List.range 6)) rfl rfl 277 rfl (fun v0 R0 t0 ht0 hp0 => ?_)
      obtain ⟨rfl, rfl⟩ := hp0
      refine q_eqs (st' := [.int (nI (k_low w 12)), .ref h0]) rfl ?_
      refine q_eqR (Rs' := [wX, wO, wA, wB, wL, wH]) rfl ?_
      have hlw274 : k_low w 12 < 12 := k_low_lt (by omega)
      refine q_iload_n C dL_act_277 278 3 rfl rfl ?_
      refine q_iconst (v := nI 4) C dL_act_278 279 rfl (by decide) ?_
      refine q_ishr (v := w >>> 4) C dL_act_279 280 rfl (by rw [show nI 4 &&& 31 = (4 : Int32) by decide]) ?_
      refine q_bipush (v := nI 12) C dL_act_280 282 rfl (by decide) ?_
      refine q_callS (n := 2) (rest := [.int (nI (k_low w 12)), .ref h0]) (Rr := [wX, wO, wA, wB, wL, wH]) C (c_L_low l hZ hI (w >>> 4) 12 (by omega) (by omega)) gL_act_L_low rfl rfl rfl (by decide +kernel) B.1 ⟨Nat.le_of_ble_eq_true rfl, Nat.le_of_ble_eq_true rfl⟩ rfl rfl (Nat.le_of_ble_eq_true rfl) dL_act_282 ⟨(Nat.le_of_ble_eq_true rfl), (Nat.le_of_ble_eq_true rfl)⟩ [] [0, 1, 2, 3, 4, 5] (by decide : ([] ++ ([0, 1, 2, 3, 4, 5] : List Nat)).Perm (List.range 6)) rfl rfl 285 rfl (fun v0 R0 t0 ht0 hp0 => ?_)
      obtain ⟨rfl, rfl⟩ := hp0
      refine q_eqs (st' := [.int (nI (k_low (w >>> 4) 12)), .int (nI (k_low w 12)), .ref h0]) rfl ?_
      refine q_eqR (Rs' := [wX, wO, wA, wB, wL, wH]) rfl ?_
      have hlw282 : k_low (w >>> 4) 12 < 12 := k_low_lt (by omega)
      refine q_callV (k := 0) (ci := 5) (n := 2) (rest := []) (Rr := []) C rfl (k_isX_recv hX) rfl (c_X6_swap_c l hZ hI hN hG h0 aO aY aN hsn aT aK wX hX aB aL aS sc wO hO wA hA bx at0 wB hB ln wL hL sv wH hH (k_low w 12) (k_low (w >>> 4) 12) (by omega) (by omega)) gL_act_X6_swap rfl rfl rfl (by decide +kernel) B.1 ⟨Nat.le_of_ble_eq_true rfl, Nat.le_of_ble_eq_true rfl⟩ rfl rfl (Nat.le_of_ble_eq_true rfl) dL_act_285 ⟨(Nat.le_of_ble_eq_true rfl), (Nat.le_of_ble_eq_true rfl)⟩ [0, 1, 2, 3, 4, 5] [] (by decide : ([0, 1, 2, 3, 4, 5] ++ ([] : List Nat)).Perm (List.range 6)) rfl rfl 288 rfl (fun v0 R0 t0 ht0 hp0 => ?_)
      obtain ⟨rfl, wO_285, hwO_285, wA_285, hwA_285, wB_285, hwB_285, wH_285, hwH_285, rfl⟩ := hp0
      refine q_eqs (st' := [.int (nI (k_wr (k_ex bx (k_low w 12) (k_low (w >>> 4) 12))))]) rfl ?_
      refine q_eqR (Rs' := [wX, wO_285, wA_285, wB_285, wL, wH_285]) rfl ?_
      exact q_iret C B dL_act_288 rfl rfl (fun t0 ht0 => ⟨rfl, _, hwO_285, _, hwA_285, _, hwB_285, _, hwH_285, by first | rfl | simp⟩)
    · refine q_tableOut C dL_act_24 270 (by decide) (by decide) ?_
      refine q_aload_n C dL_act_270 271 1 rfl rfl ?_
      refine q_iload_n C dL_act_271 272 3 rfl rfl ?_
      refine q_bipush (v := nI 12) C dL_act_272 274 rfl (by decide) ?_
      refine q_callS (n := 2) (rest := [.ref h0]) (Rr := [wX, wO, wA, wB, wL, wH]) C (c_L_low l hZ hI w 12 (by omega) (by omega)) gL_act_L_low rfl rfl rfl (by decide +kernel) B.1 ⟨Nat.le_of_ble_eq_true rfl, Nat.le_of_ble_eq_true rfl⟩ rfl rfl (Nat.le_of_ble_eq_true rfl) dL_act_274 ⟨(Nat.le_of_ble_eq_true rfl), (Nat.le_of_ble_eq_true rfl)⟩ [] [0, 1, 2, 3, 4, 5] (by decide : ([] ++ ([0, 1, 2, 3, 4, 5] : List Nat)).Perm (List.range 6)) rfl rfl 277 rfl (fun v0 R0 t0 ht0 hp0 => ?_)
      obtain ⟨rfl, rfl⟩ := hp0
      refine q_eqs (st' := [.int (nI (k_low w 12)), .ref h0]) rfl ?_
      refine q_eqR (Rs' := [wX, wO, wA, wB, wL, wH]) rfl ?_
      have hlw274 : k_low w 12 < 12 := k_low_lt (by omega)
      refine q_iload_n C dL_act_277 278 3 rfl rfl ?_
      refine q_iconst (v := nI 4) C dL_act_278 279 rfl (by decide) ?_
      refine q_ishr (v := w >>> 4) C dL_act_279 280 rfl (by rw [show nI 4 &&& 31 = (4 : Int32) by decide]) ?_
      refine q_bipush (v := nI 12) C dL_act_280 282 rfl (by decide) ?_
      refine q_callS (n := 2) (rest := [.int (nI (k_low w 12)), .ref h0]) (Rr := [wX, wO, wA, wB, wL, wH]) C (c_L_low l hZ hI (w >>> 4) 12 (by omega) (by omega)) gL_act_L_low rfl rfl rfl (by decide +kernel) B.1 ⟨Nat.le_of_ble_eq_true rfl, Nat.le_of_ble_eq_true rfl⟩ rfl rfl (Nat.le_of_ble_eq_true rfl) dL_act_282 ⟨(Nat.le_of_ble_eq_true rfl), (Nat.le_of_ble_eq_true rfl)⟩ [] [0, 1, 2, 3, 4, 5] (by decide : ([] ++ ([0, 1, 2, 3, 4, 5] : List Nat)).Perm (List.range 6)) rfl rfl 285 rfl (fun v0 R0 t0 ht0 hp0 => ?_)
      obtain ⟨rfl, rfl⟩ := hp0
      refine q_eqs (st' := [.int (nI (k_low (w >>> 4) 12)), .int (nI (k_low w 12)), .ref h0]) rfl ?_
      refine q_eqR (Rs' := [wX, wO, wA, wB, wL, wH]) rfl ?_
      have hlw282 : k_low (w >>> 4) 12 < 12 := k_low_lt (by omega)
      refine q_callV (k := 0) (ci := 5) (n := 2) (rest := []) (Rr := []) C rfl (k_isX_recv hX) rfl (c_X6_swap_c l hZ hI hN hG h0 aO aY aN hsn aT aK wX hX aB aL aS sc wO hO wA hA bx at0 wB hB ln wL hL sv wH hH (k_low w 12) (k_low (w >>> 4) 12) (by omega) (by omega)) gL_act_X6_swap rfl rfl rfl (by decide +kernel) B.1 ⟨Nat.le_of_ble_eq_true rfl, Nat.le_of_ble_eq_true rfl⟩ rfl rfl (Nat.le_of_ble_eq_true rfl) dL_act_285 ⟨(Nat.le_of_ble_eq_true rfl), (Nat.le_of_ble_eq_true rfl)⟩ [0, 1, 2, 3, 4, 5] [] (by decide : ([0, 1, 2, 3, 4, 5] ++ ([] : List Nat)).Perm (List.range 6)) rfl rfl 288 rfl (fun v0 R0 t0 ht0 hp0 => ?_)
      obtain ⟨rfl, wO_285, hwO_285, wA_285, hwA_285, wB_285, hwB_285, wH_285, hwH_285, rfl⟩ := hp0
      refine q_eqs (st' := [.int (nI (k_wr (k_ex bx (k_low w 12) (k_low (w >>> 4) 12))))]) rfl ?_
      refine q_eqR (Rs' := [wX, wO_285, wA_285, wB_285, wL, wH_285]) rfl ?_
      exact q_iret C B dL_act_288 rfl rfl (fun t0 ht0 => ⟨rfl, _, hwO_285, _, hwA_285, _, hwB_285, _, hwH_285, by first | rfl | simp⟩)
    · refine q_tableOut C dL_act_24 270 (by decide) (by decide) ?_
      refine q_aload_n C dL_act_270 271 1 rfl rfl ?_
      refine q_iload_n C dL_act_271 272 3 rfl rfl ?_
      refine q_bipush (v := nI 12) C dL_act_272 274 rfl (by decide) ?_
      refine q_callS (n := 2) (rest := [.ref h0]) (Rr := [wX, wO, wA, wB, wL, wH]) C (c_L_low l hZ hI w 12 (by omega) (by omega)) gL_act_L_low rfl rfl rfl (by decide +kernel) B.1 ⟨Nat.le_of_ble_eq_true rfl, Nat.le_of_ble_eq_true rfl⟩ rfl rfl (Nat.le_of_ble_eq_true rfl) dL_act_274 ⟨(Nat.le_of_ble_eq_true rfl), (Nat.le_of_ble_eq_true rfl)⟩ [] [0, 1, 2, 3, 4, 5] (by decide : ([] ++ ([0, 1, 2, 3, 4, 5] : List Nat)).Perm (List.range 6)) rfl rfl 277 rfl (fun v0 R0 t0 ht0 hp0 => ?_)
      obtain ⟨rfl, rfl⟩ := hp0
      refine q_eqs (st' := [.int (nI (k_low w 12)), .ref h0]) rfl ?_
      refine q_eqR (Rs' := [wX, wO, wA, wB, wL, wH]) rfl ?_
      have hlw274 : k_low w 12 < 12 := k_low_lt (by omega)
      refine q_iload_n C dL_act_277 278 3 rfl rfl ?_
      refine q_iconst (v := nI 4) C dL_act_278 279 rfl (by decide) ?_
      refine q_ishr (v := w >>> 4) C dL_act_279 280 rfl (by rw [show nI 4 &&& 31 = (4 : Int32) by decide]) ?_
      refine q_bipush (v := nI 12) C dL_act_280 282 rfl (by decide) ?_
      refine q_callS (n := 2) (rest := [.int (nI (k_low w 12)), .ref h0]) (Rr := [wX, wO, wA, wB, wL, wH]) C (c_L_low l hZ hI (w >>> 4) 12 (by omega) (by omega)) gL_act_L_low rfl rfl rfl (by decide +kernel) B.1 ⟨Nat.le_of_ble_eq_true rfl, Nat.le_of_ble_eq_true rfl⟩ rfl rfl (Nat.le_of_ble_eq_true rfl) dL_act_282 ⟨(Nat.le_of_ble_eq_true rfl), (Nat.le_of_ble_eq_true rfl)⟩ [] [0, 1, 2, 3, 4, 5] (by decide : ([] ++ ([0, 1, 2, 3, 4, 5] : List Nat)).Perm (List.range 6)) rfl rfl 285 rfl (fun v0 R0 t0 ht0 hp0 => ?_)
      obtain ⟨rfl, rfl⟩ := hp0
      refine q_eqs (st' := [.int (nI (k_low (w >>> 4) 12)), .int (nI (k_low w 12)), .ref h0]) rfl ?_
      refine q_eqR (Rs' := [wX, wO, wA, wB, wL, wH]) rfl ?_
      have hlw282 : k_low (w >>> 4) 12 < 12 := k_low_lt (by omega)
      refine q_callV (k := 0) (ci := 5) (n := 2) (rest := []) (Rr := []) C rfl (k_isX_recv hX) rfl (c_X6_swap_c l hZ hI hN hG h0 aO aY aN hsn aT aK wX hX aB aL aS sc wO hO wA hA bx at0 wB hB ln wL hL sv wH hH (k_low w 12) (k_low (w >>> 4) 12) (by omega) (by omega)) gL_act_X6_swap rfl rfl rfl (by decide +kernel) B.1 ⟨Nat.le_of_ble_eq_true rfl, Nat.le_of_ble_eq_true rfl⟩ rfl rfl (Nat.le_of_ble_eq_true rfl) dL_act_285 ⟨(Nat.le_of_ble_eq_true rfl), (Nat.le_of_ble_eq_true rfl)⟩ [0, 1, 2, 3, 4, 5] [] (by decide : ([0, 1, 2, 3, 4, 5] ++ ([] : List Nat)).Perm (List.range 6)) rfl rfl 288 rfl (fun v0 R0 t0 ht0 hp0 => ?_)
      obtain ⟨rfl, wO_285, hwO_285, wA_285, hwA_285, wB_285, hwB_285, wH_285, hwH_285, rfl⟩ := hp0
      refine q_eqs (st' := [.int (nI (k_wr (k_ex bx (k_low w 12) (k_low (w >>> 4) 12))))]) rfl ?_
      refine q_eqR (Rs' := [wX, wO_285, wA_285, wB_285, wL, wH_285]) rfl ?_
      exact q_iret C B dL_act_288 rfl rfl (fun t0 ht0 => ⟨rfl, _, hwO_285, _, hwA_285, _, hwB_285, _, hwH_285, by first | rfl | simp⟩)
    · refine q_tableOut C dL_act_24 270 (by decide) (by decide) ?_
      refine q_aload_n C dL_act_270 271 1 rfl rfl ?_
      refine q_iload_n C dL_act_271 272 3 rfl rfl ?_
      refine q_bipush (v := nI 12) C dL_act_272 274 rfl (by decide) ?_
      refine q_callS (n := 2) (rest := [.ref h0]) (Rr := [wX, wO, wA, wB, wL, wH]) C (c_L_low l hZ hI w 12 (by omega) (by omega)) gL_act_L_low rfl rfl rfl (by decide +kernel) B.1 ⟨Nat.le_of_ble_eq_true rfl, Nat.le_of_ble_eq_true rfl⟩ rfl rfl (Nat.le_of_ble_eq_true rfl) dL_act_274 ⟨(Nat.le_of_ble_eq_true rfl), (Nat.le_of_ble_eq_true rfl)⟩ [] [0, 1, 2, 3, 4, 5] (by decide : ([] ++ ([0, 1, 2, 3, 4, 5] : List Nat)).Perm (List.range 6)) rfl rfl 277 rfl (fun v0 R0 t0 ht0 hp0 => ?_)
      obtain ⟨rfl, rfl⟩ := hp0
      refine q_eqs (st' := [.int (nI (k_low w 12)), .ref h0]) rfl ?_
      refine q_eqR (Rs' := [wX, wO, wA, wB, wL, wH]) rfl ?_
      have hlw274 : k_low w 12 < 12 := k_low_lt (by omega)
      refine q_iload_n C dL_act_277 278 3 rfl rfl ?_
      refine q_iconst (v := nI 4) C dL_act_278 279 rfl (by decide) ?_
      refine q_ishr (v := w >>> 4) C dL_act_279 280 rfl (by rw [show nI 4 &&& 31 = (4 : Int32) by decide]) ?_
      refine q_bipush (v := nI 12) C dL_act_280 282 rfl (by decide) ?_
      refine q_callS (n := 2) (rest := [.int (nI (k_low w 12)), .ref h0]) (Rr := [wX, wO, wA, wB, wL, wH]) C (c_L_low l hZ hI (w >>> 4) 12 (by omega) (by omega)) gL_act_L_low rfl rfl rfl (by decide +kernel) B.1 ⟨Nat.le_of_ble_eq_true rfl, Nat.le_of_ble_eq_true rfl⟩ rfl rfl (Nat.le_of_ble_eq_true rfl) dL_act_282 ⟨(Nat.le_of_ble_eq_true rfl), (Nat.le_of_ble_eq_true rfl)⟩ [] [0, 1, 2, 3, 4, 5] (by decide : ([] ++ ([0, 1, 2, 3, 4, 5] : List Nat)).Perm (List.range 6)) rfl rfl 285 rfl (fun v0 R0 t0 ht0 hp0 => ?_)
      obtain ⟨rfl, rfl⟩ := hp0
      refine q_eqs (st' := [.int (nI (k_low (w >>> 4) 12)), .int (nI (k_low w 12)), .ref h0]) rfl ?_
      refine q_eqR (Rs' := [wX, wO, wA, wB, wL, wH]) rfl ?_
      have hlw282 : k_low (w >>> 4) 12 < 12 := k_low_lt (by omega)
      refine q_callV (k := 0) (ci := 5) (n := 2) (rest := []) (Rr := []) C rfl (k_isX_recv hX) rfl (c_X6_swap_c l hZ hI hN hG h0 aO aY aN hsn aT aK wX hX aB aL aS sc wO hO wA hA bx at0 wB hB ln wL hL sv wH hH (k_low w 12) (k_low (w >>> 4) 12) (by omega) (by omega)) gL_act_X6_swap rfl rfl rfl (by decide +kernel) B.1 ⟨Nat.le_of_ble_eq_true rfl, Nat.le_of_ble_eq_true rfl⟩ rfl rfl (Nat.le_of_ble_eq_true rfl) dL_act_285 ⟨(Nat.le_of_ble_eq_true rfl), (Nat.le_of_ble_eq_true rfl)⟩ [0, 1, 2, 3, 4, 5] [] (by decide : ([0, 1, 2, 3, 4, 5] ++ ([] : List Nat)).Perm (List.range 6)) rfl rfl 288 rfl (fun v0 R0 t0 ht0 hp0 => ?_)
      obtain ⟨rfl, wO_285, hwO_285, wA_285, hwA_285, wB_285, hwB_285, wH_285, hwH_285, rfl⟩ := hp0
      refine q_eqs (st' := [.int (nI (k_wr (k_ex bx (k_low w 12) (k_low (w >>> 4) 12))))]) rfl ?_
      refine q_eqR (Rs' := [wX, wO_285, wA_285, wB_285, wL, wH_285]) rfl ?_
      exact q_iret C B dL_act_288 rfl rfl (fun t0 ht0 => ⟨rfl, _, hwO_285, _, hwA_285, _, hwB_285, _, hwH_285, by first | rfl | simp⟩)
  · refine q_iconst (v := nI 4) C dL_act_10 11 rfl (by decide) ?_
    refine q_goto C dL_act_11 16 (by decide) ?_
    refine q_callS (n := 2) (rest := []) (Rr := [wX, wO, wA, wB, wL, wH]) C (c_L_low l hZ hI w 4 (by omega) (by omega)) gL_act_L_low rfl rfl rfl (by decide +kernel) B.1 ⟨Nat.le_of_ble_eq_true rfl, Nat.le_of_ble_eq_true rfl⟩ rfl rfl (Nat.le_of_ble_eq_true rfl) dL_act_16 ⟨(Nat.le_of_ble_eq_true rfl), (Nat.le_of_ble_eq_true rfl)⟩ [] [0, 1, 2, 3, 4, 5] (by decide : ([] ++ ([0, 1, 2, 3, 4, 5] : List Nat)).Perm (List.range 6)) rfl rfl 19 rfl (fun v0 R0 t0 ht0 hp0 => ?_)
    obtain ⟨rfl, rfl⟩ := hp0
    refine q_eqs (st' := [.int (nI (k_low w 4))]) rfl ?_
    refine q_eqR (Rs' := [wX, wO, wA, wB, wL, wH]) rfl ?_
    have hlw16 : k_low w 4 < 4 := k_low_lt (by omega)
    refine q_istore_n C dL_act_19 20 rfl [(3, .int (nI (k_low w 4))), (0, .ref h0), (1, .int v), (2, .int w)] (by decide) rfl ?_
    refine q_iload_n C dL_act_20 21 2 rfl rfl ?_
    refine q_bipush (v := nI 15) C dL_act_21 23 rfl (by decide) ?_
    refine q_iand (v := nI ((k_jj v))) C dL_act_23 24 rfl (pk_and v 4 (by decide)) ?_
    obtain ⟨j, hjv⟩ : ∃ j, j = k_jj v := ⟨_, rfl⟩
    refine q_eqs (st' := [.int (nI j)]) (by rw [hjv]) ?_
    rcases (by omega : j = 12 ∨ j = 13 ∨ j = 14 ∨ j = 15) with rfl | rfl | rfl | rfl
    · refine q_tableOut C dL_act_24 270 (by decide) (by decide) ?_
      refine q_aload_n C dL_act_270 271 1 rfl rfl ?_
      refine q_iload_n C dL_act_271 272 3 rfl rfl ?_
      refine q_bipush (v := nI 12) C dL_act_272 274 rfl (by decide) ?_
      refine q_callS (n := 2) (rest := [.ref h0]) (Rr := [wX, wO, wA, wB, wL, wH]) C (c_L_low l hZ hI w 12 (by omega) (by omega)) gL_act_L_low rfl rfl rfl (by decide +kernel) B.1 ⟨Nat.le_of_ble_eq_true rfl, Nat.le_of_ble_eq_true rfl⟩ rfl rfl (Nat.le_of_ble_eq_true rfl) dL_act_274 ⟨(Nat.le_of_ble_eq_true rfl), (Nat.le_of_ble_eq_true rfl)⟩ [] [0, 1, 2, 3, 4, 5] (by decide : ([] ++ ([0, 1, 2, 3, 4, 5] : List Nat)).Perm (List.range 6)) rfl rfl 277 rfl (fun v0 R0 t0 ht0 hp0 => ?_)
      obtain ⟨rfl, rfl⟩ := hp0
      refine q_eqs (st' := [.int (nI (k_low w 12)), .ref h0]) rfl ?_
      refine q_eqR (Rs' := [wX, wO, wA, wB, wL, wH]) rfl ?_
      have hlw274 : k_low w 12 < 12 := k_low_lt (by omega)
      refine q_iload_n C dL_act_277 278 3 rfl rfl ?_
      refine q_iconst (v := nI 4) C dL_act_278 279 rfl (by decide) ?_
      refine q_ishr (v := w >>> 4) C dL_act_279 280 rfl (by rw [show nI 4 &&& 31 = (4 : Int32) by decide]) ?_
      refine q_bipush (v := nI 12) C dL_act_280 282 rfl (by decide) ?_
      refine q_callS (n := 2) (rest := [.int (nI (k_low w 12)), .ref h0]) (Rr := [wX, wO, wA, wB, wL, wH]) C (c_L_low l hZ hI (w >>> 4) 12 (by omega) (by omega)) gL_act_L_low rfl rfl rfl (by decide +kernel) B.1 ⟨Nat.le_of_ble_eq_true rfl, Nat.le_of_ble_eq_true rfl⟩ rfl rfl (Nat.le_of_ble_eq_true rfl) dL_act_282 ⟨(Nat.le_of_ble_eq_true rfl), (Nat.le_of_ble_eq_true rfl)⟩ [] [0, 1, 2, 3, 4, 5] (by decide : ([] ++ ([0, 1, 2, 3, 4, 5] : List Nat)).Perm (List.range 6)) rfl rfl 285 rfl (fun v0 R0 t0 ht0 hp0 => ?_)
      obtain ⟨rfl, rfl⟩ := hp0
      refine q_eqs (st' := [.int (nI (k_low (w >>> 4) 12)), .int (nI (k_low w 12)), .ref h0]) rfl ?_
      refine q_eqR (Rs' := [wX, wO, wA, wB, wL, wH]) rfl ?_
      have hlw282 : k_low (w >>> 4) 12 < 12 := k_low_lt (by omega)
      refine q_callV (k := 0) (ci := 5) (n := 2) (rest := []) (Rr := []) C rfl (k_isX_recv hX) rfl (c_X6_swap_c l hZ hI hN hG h0 aO aY aN hsn aT aK wX hX aB aL aS sc wO hO wA hA bx at0 wB hB ln wL hL sv wH hH (k_low w 12) (k_low (w >>> 4) 12) (by omega) (by omega)) gL_act_X6_swap rfl rfl rfl (by decide +kernel) B.1 ⟨Nat.le_of_ble_eq_true rfl, Nat.le_of_ble_eq_true rfl⟩ rfl rfl (Nat.le_of_ble_eq_true rfl) dL_act_285 ⟨(Nat.le_of_ble_eq_true rfl), (Nat.le_of_ble_eq_true rfl)⟩ [0, 1, 2, 3, 4, 5] [] (by decide : ([0, 1, 2, 3, 4, 5] ++ ([] : List Nat)).Perm (List.range 6)) rfl rfl 288 rfl (fun v0 R0 t0 ht0 hp0 => ?_)
      obtain ⟨rfl, wO_285, hwO_285, wA_285, hwA_285, wB_285, hwB_285, wH_285, hwH_285, rfl⟩ := hp0
      refine q_eqs (st' := [.int (nI (k_wr (k_ex bx (k_low w 12) (k_low (w >>> 4) 12))))]) rfl ?_
      refine q_eqR (Rs' := [wX, wO_285, wA_285, wB_285, wL, wH_285]) rfl ?_
      exact q_iret C B dL_act_288 rfl rfl (fun t0 ht0 => ⟨rfl, _, hwO_285, _, hwA_285, _, hwB_285, _, hwH_285, by first | rfl | simp⟩)
    · refine q_tableOut C dL_act_24 270 (by decide) (by decide) ?_
      refine q_aload_n C dL_act_270 271 1 rfl rfl ?_
      refine q_iload_n C dL_act_271 272 3 rfl rfl ?_
      refine q_bipush (v := nI 12) C dL_act_272 274 rfl (by decide) ?_
      refine q_callS (n := 2) (rest := [.ref h0]) (Rr := [wX, wO, wA, wB, wL, wH]) C (c_L_low l hZ hI w 12 (by omega) (by omega)) gL_act_L_low rfl rfl rfl (by decide +kernel) B.1 ⟨Nat.le_of_ble_eq_true rfl, Nat.le_of_ble_eq_true rfl⟩ rfl rfl (Nat.le_of_ble_eq_true rfl) dL_act_274 ⟨(Nat.le_of_ble_eq_true rfl), (Nat.le_of_ble_eq_true rfl)⟩ [] [0, 1, 2, 3, 4, 5] (by decide : ([] ++ ([0, 1, 2, 3, 4, 5] : List Nat)).Perm (List.range 6)) rfl rfl 277 rfl (fun v0 R0 t0 ht0 hp0 => ?_)
      obtain ⟨rfl, rfl⟩ := hp0
      refine q_eqs (st' := [.int (nI (k_low w 12)), .ref h0]) rfl ?_
      refine q_eqR (Rs' := [wX, wO, wA, wB, wL, wH]) rfl ?_
      have hlw274 : k_low w 12 < 12 := k_low_lt (by omega)
      refine q_iload_n C dL_act_277 278 3 rfl rfl ?_
      refine q_iconst (v := nI 4) C dL_act_278 279 rfl (by decide) ?_
      refine q_ishr (v := w >>> 4) C dL_act_279 280 rfl (by rw [show nI 4 &&& 31 = (4 : Int32) by decide]) ?_
      refine q_bipush (v := nI 12) C dL_act_280 282 rfl (by decide) ?_
      refine q_callS (n := 2) (rest := [.int (nI (k_low w 12)), .ref h0]) (Rr := [wX, wO, wA, wB, wL, wH]) C (c_L_low l hZ hI (w >>> 4) 12 (by omega) (by omega)) gL_act_L_low rfl rfl rfl (by decide +kernel) B.1 ⟨Nat.le_of_ble_eq_true rfl, Nat.le_of_ble_eq_true rfl⟩ rfl rfl (Nat.le_of_ble_eq_true rfl) dL_act_282 ⟨(Nat.le_of_ble_eq_true rfl), (Nat.le_of_ble_eq_true rfl)⟩ [] [0, 1, 2, 3, 4, 5] (by decide : ([] ++ ([0, 1, 2, 3, 4, 5] : List Nat)).Perm (List.range 6)) rfl rfl 285 rfl (fun v0 R0 t0 ht0 hp0 => ?_)
      obtain ⟨rfl, rfl⟩ := hp0
      refine q_eqs (st' := [.int (nI (k_low (w >>> 4) 12)), .int (nI (k_low w 12)), .ref h0]) rfl ?_
      refine q_eqR (Rs' := [wX, wO, wA, wB, wL, wH]) rfl ?_
      have hlw282 : k_low (w >>> 4) 12 < 12 := k_low_lt (by omega)
      refine q_callV (k := 0) (ci := 5) (n := 2) (rest := []) (Rr := []) C rfl (k_isX_recv hX) rfl (c_X6_swap_c l hZ hI hN hG h0 aO aY aN hsn aT aK wX hX aB aL aS sc wO hO wA hA bx at0 wB hB ln wL hL sv wH hH (k_low w 12) (k_low (w >>> 4) 12) (by omega) (by omega)) gL_act_X6_swap rfl rfl rfl (by decide +kernel) B.1 ⟨Nat.le_of_ble_eq_true rfl, Nat.le_of_ble_eq_true rfl⟩ rfl rfl (Nat.le_of_ble_eq_true rfl) dL_act_285 ⟨(Nat.le_of_ble_eq_true rfl), (Nat.le_of_ble_eq_true rfl)⟩ [0, 1, 2, 3, 4, 5] [] (by decide : ([0, 1, 2, 3, 4, 5] ++ ([] : List Nat)).Perm (List.range 6)) rfl rfl 288 rfl (fun v0 R0 t0 ht0 hp0 => ?_)
      obtain ⟨rfl, wO_285, hwO_285, wA_285, hwA_285, wB_285, hwB_285, wH_285, hwH_285, rfl⟩ := hp0
      refine q_eqs (st' := [.int (nI (k_wr (k_ex bx (k_low w 12) (k_low (w >>> 4) 12))))]) rfl ?_
      refine q_eqR (Rs' := [wX, wO_285, wA_285, wB_285, wL, wH_285]) rfl ?_
      exact q_iret C B dL_act_288 rfl rfl (fun t0 ht0 => ⟨rfl, _, hwO_285, _, hwA_285, _, hwB_285, _, hwH_285, by first | rfl | simp⟩)
    · refine q_tableOut C dL_act_24 270 (by decide) (by decide) ?_
      refine q_aload_n C dL_act_270 271 1 rfl rfl ?_
      refine q_iload_n C dL_act_271 272 3 rfl rfl ?_
      refine q_bipush (v := nI 12) C dL_act_272 274 rfl (by decide) ?_
      refine q_callS (n := 2) (rest := [.ref h0]) (Rr := [wX, wO, wA, wB, wL, wH]) C (c_L_low l hZ hI w 12 (by omega) (by omega)) gL_act_L_low rfl rfl rfl (by decide +kernel) B.1 ⟨Nat.le_of_ble_eq_true rfl, Nat.le_of_ble_eq_true rfl⟩ rfl rfl (Nat.le_of_ble_eq_true rfl) dL_act_274 ⟨(Nat.le_of_ble_eq_true rfl), (Nat.le_of_ble_eq_true rfl)⟩ [] [0, 1, 2, 3, 4, 5] (by decide : ([] ++ ([0, 1, 2, 3, 4, 5] : List Nat)).Perm (List.range 6)) rfl rfl 277 rfl (fun v0 R0 t0 ht0 hp0 => ?_)
      obtain ⟨rfl, rfl⟩ := hp0
      refine q_eqs (st' := [.int (nI (k_low w 12)), .ref h0]) rfl ?_
      refine q_eqR (Rs' := [wX, wO, wA, wB, wL, wH]) rfl ?_
      have hlw274 : k_low w 12 < 12 := k_low_lt (by omega)
      refine q_iload_n C dL_act_277 278 3 rfl rfl ?_
      refine q_iconst (v := nI 4) C dL_act_278 279 rfl (by decide) ?_
      refine q_ishr (v := w >>> 4) C dL_act_279 280 rfl (by rw [show nI 4 &&& 31 = (4 : Int32) by decide]) ?_
      refine q_bipush (v := nI 12) C dL_act_280 282 rfl (by decide) ?_
      refine q_callS (n := 2) (rest := [.int (nI (k_low w 12)), .ref h0]) (Rr := [wX, wO, wA, wB, wL, wH]) C (c_L_low l hZ hI (w >>> 4) 12 (by omega) (by omega)) gL_act_L_low rfl rfl rfl (by decide +kernel) B.1 ⟨Nat.le_of_ble_eq_true rfl, Nat.le_of_ble_eq_true rfl⟩ rfl rfl (Nat.le_of_ble_eq_true rfl) dL_act_282 ⟨(Nat.le_of_ble_eq_true rfl), (Nat.le_of_ble_eq_true rfl)⟩ [] [0, 1, 2, 3, 4, 5] (by decide : ([] ++ ([0, 1, 2, 3, 4, 5] : List Nat)).Perm (List.range 6)) rfl rfl 285 rfl (fun v0 R0 t0 ht0 hp0 => ?_)
      obtain ⟨rfl, rfl⟩ := hp0
      refine q_eqs (st' := [.int (nI (k_low (w >>> 4) 12)), .int (nI (k_low w 12)), .ref h0]) rfl ?_
      refine q_eqR (Rs' := [wX, wO, wA, wB, wL, wH]) rfl ?_
      have hlw282 : k_low (w >>> 4) 12 < 12 := k_low_lt (by omega)
      refine q_callV (k := 0) (ci := 5) (n := 2) (rest := []) (Rr := []) C rfl (k_isX_recv hX) rfl (c_X6_swap_c l hZ hI hN hG h0 aO aY aN hsn aT aK wX hX aB aL aS sc wO hO wA hA bx at0 wB hB ln wL hL sv wH hH (k_low w 12) (k_low (w >>> 4) 12) (by omega) (by omega)) gL_act_X6_swap rfl rfl rfl (by decide +kernel) B.1 ⟨Nat.le_of_ble_eq_true rfl, Nat.le_of_ble_eq_true rfl⟩ rfl rfl (Nat.le_of_ble_eq_true rfl) dL_act_285 ⟨(Nat.le_of_ble_eq_true rfl), (Nat.le_of_ble_eq_true rfl)⟩ [0, 1, 2, 3, 4, 5] [] (by decide : ([0, 1, 2, 3, 4, 5] ++ ([] : List Nat)).Perm (List.range 6)) rfl rfl 288 rfl (fun v0 R0 t0 ht0 hp0 => ?_)
      obtain ⟨rfl, wO_285, hwO_285, wA_285, hwA_285, wB_285, hwB_285, wH_285, hwH_285, rfl⟩ := hp0
      refine q_eqs (st' := [.int (nI (k_wr (k_ex bx (k_low w 12) (k_low (w >>> 4) 12))))]) rfl ?_
      refine q_eqR (Rs' := [wX, wO_285, wA_285, wB_285, wL, wH_285]) rfl ?_
      exact q_iret C B dL_act_288 rfl rfl (fun t0 ht0 => ⟨rfl, _, hwO_285, _, hwA_285, _, hwB_285, _, hwH_285, by first | rfl | simp⟩)
    · refine q_tableOut C dL_act_24 270 (by decide) (by decide) ?_
      refine q_aload_n C dL_act_270 271 1 rfl rfl ?_
      refine q_iload_n C dL_act_271 272 3 rfl rfl ?_
      refine q_bipush (v := nI 12) C dL_act_272 274 rfl (by decide) ?_
      refine q_callS (n := 2) (rest := [.ref h0]) (Rr := [wX, wO, wA, wB, wL, wH]) C (c_L_low l hZ hI w 12 (by omega) (by omega)) gL_act_L_low rfl rfl rfl (by decide +kernel) B.1 ⟨Nat.le_of_ble_eq_true rfl, Nat.le_of_ble_eq_true rfl⟩ rfl rfl (Nat.le_of_ble_eq_true rfl) dL_act_274 ⟨(Nat.le_of_ble_eq_true rfl), (Nat.le_of_ble_eq_true rfl)⟩ [] [0, 1, 2, 3, 4, 5] (by decide : ([] ++ ([0, 1, 2, 3, 4, 5] : List Nat)).Perm (List.range 6)) rfl rfl 277 rfl (fun v0 R0 t0 ht0 hp0 => ?_)
      obtain ⟨rfl, rfl⟩ := hp0
      refine q_eqs (st' := [.int (nI (k_low w 12)), .ref h0]) rfl ?_
      refine q_eqR (Rs' := [wX, wO, wA, wB, wL, wH]) rfl ?_
      have hlw274 : k_low w 12 < 12 := k_low_lt (by omega)
      refine q_iload_n C dL_act_277 278 3 rfl rfl ?_
      refine q_iconst (v := nI 4) C dL_act_278 279 rfl (by decide) ?_
      refine q_ishr (v := w >>> 4) C dL_act_279 280 rfl (by rw [show nI 4 &&& 31 = (4 : Int32) by decide]) ?_
      refine q_bipush (v := nI 12) C dL_act_280 282 rfl (by decide) ?_
      refine q_callS (n := 2) (rest := [.int (nI (k_low w 12)), .ref h0]) (Rr := [wX, wO, wA, wB, wL, wH]) C (c_L_low l hZ hI (w >>> 4) 12 (by omega) (by omega)) gL_act_L_low rfl rfl rfl (by decide +kernel) B.1 ⟨Nat.le_of_ble_eq_true rfl, Nat.le_of_ble_eq_true rfl⟩ rfl rfl (Nat.le_of_ble_eq_true rfl) dL_act_282 ⟨(Nat.le_of_ble_eq_true rfl), (Nat.le_of_ble_eq_true rfl)⟩ [] [0, 1, 2, 3, 4, 5] (by decide : ([] ++ ([0, 1, 2, 3, 4, 5] : List Nat)).Perm (List.range 6)) rfl rfl 285 rfl (fun v0 R0 t0 ht0 hp0 => ?_)
      obtain ⟨rfl, rfl⟩ := hp0
      refine q_eqs (st' := [.int (nI (k_low (w >>> 4) 12)), .int (nI (k_low w 12)), .ref h0]) rfl ?_
      refine q_eqR (Rs' := [wX, wO, wA, wB, wL, wH]) rfl ?_
      have hlw282 : k_low (w >>> 4) 12 < 12 := k_low_lt (by omega)
      refine q_callV (k := 0) (ci := 5) (n := 2) (rest := []) (Rr := []) C rfl (k_isX_recv hX) rfl (c_X6_swap_c l hZ hI hN hG h0 aO aY aN hsn aT aK wX hX aB aL aS sc wO hO wA hA bx at0 wB hB ln wL hL sv wH hH (k_low w 12) (k_low (w >>> 4) 12) (by omega) (by omega)) gL_act_X6_swap rfl rfl rfl (by decide +kernel) B.1 ⟨Nat.le_of_ble_eq_true rfl, Nat.le_of_ble_eq_true rfl⟩ rfl rfl (Nat.le_of_ble_eq_true rfl) dL_act_285 ⟨(Nat.le_of_ble_eq_true rfl), (Nat.le_of_ble_eq_true rfl)⟩ [0, 1, 2, 3, 4, 5] [] (by decide : ([0, 1, 2, 3, 4, 5] ++ ([] : List Nat)).Perm (List.range 6)) rfl rfl 288 rfl (fun v0 R0 t0 ht0 hp0 => ?_)
      obtain ⟨rfl, wO_285, hwO_285, wA_285, hwA_285, wB_285, hwB_285, wH_285, hwH_285, rfl⟩ := hp0
      refine q_eqs (st' := [.int (nI (k_wr (k_ex bx (k_low w 12) (k_low (w >>> 4) 12))))]) rfl ?_
      refine q_eqR (Rs' := [wX, wO_285, wA_285, wB_285, wL, wH_285]) rfl ?_
      exact q_iret C B dL_act_288 rfl rfl (fun t0 ht0 => ⟨rfl, _, hwO_285, _, hwA_285, _, hwB_285, _, hwH_285, by first | rfl | simp⟩)
