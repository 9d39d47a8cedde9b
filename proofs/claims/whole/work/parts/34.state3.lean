set_option maxHeartbeats 400000 in
set_option maxRecDepth 100000 in
theorem c_X4_errorsIfSet (l : Launch) {D : va_G} {tys : List (ClassId × FieldType)} {Z : (Nat → Prop) → State → Heap → Prop} (hZ : q_St Z) {cI : ClassId} (hI : tys[0]? = some (cI, .int)) (hN : q_Ns Z) (h0 : Nat) (aB : Nat) (aL : Nat) (aS : Nat) (sc : Nat → Int32) (wO : va_W) (hO : k_isO cI h0 aB aL aS sc wO) (wA : va_W) (hA : k_isA cI aS sc wA) (bx : k_Bx) (at0 : Nat) (wB : va_W) (hB : k_isB cI aB bx at0 wB) (ln : List (Nat × Nat)) (wL : va_W) (hL : k_isL cI aL ln wL) (c : Nat) (t : Nat) (hc : c < 12) (ht : t ≤ 20) : q_Ct l D tys Z yX4_errorsIfSet wsX4_errorsIfSet ({ frames := 3, cells := 0, slots := 0, locals := 102 } : Room) 0 0 [.ref h0, .int (nI c), .int (nI t)] [wO, wA, wB, wL] (fun v0 R0 _ => v0 = some (.int (nI (k_ie bx ln sc c t))) ∧ R0 = [wO, wA, wB, wL]) := by
  have hcI := hI
  refine q_ct (cc := cX4_errorsIfSet) (maxL := 7) (ret := (some .int)) (own := RX4) (by decide) rfl hZ (Nat.le_of_ble_eq_true rfl) rfl ?_
  intro p9 e9 R s9 m9 args below meth c9 A Q C B
  have hts := C.2.2.2.2.1
  have hinX4 : ∀ w ∈ u_ws RX4 TX4 11, w ∈ wsX4_errorsIfSet := by decide +kernel
  have f21 := hts (.fieldLink RX4 21 "SortCases$State" "line" "LSortCases$Line;") (by decide +kernel)
  have f12 := hts (.fieldLink RX4 12 "SortCases$State" "boxes" "LSortCases$Boxes;") (by decide +kernel)
  have nst_X6_widthOf := q_nst hN C (by decide +kernel : Cond.methodLinkNest "SortCases$State" 73 yX6_widthOf "SortCases" ∈ q_nest)
  have iniX6 := hts (.initialized RX6) (by decide +kernel)
  have sta_X6_widthOf := hts (.static yX6_widthOf) (by decide +kernel)
  refine q_eqL (L' := [(0, .ref h0), (1, .int (nI c)), (2, .int (nI t))]) rfl ?_
  obtain rfl := hO
  have hOo : k_isO cI h0 aB aL aS sc [(h0, .inr (3, [.ref aB, .ref aL, .ref aS, .int (sc 3), .int (sc 5), .int (sc 6), .int (sc 7), .int (sc 8), .int (sc 9), .int (sc 10), .int (sc 11)]))] := rfl
  have hok := hB.2.1
  have hlc := (hok c hc).1
  have hll := hL.1.1
  have hnp := k_np_le ln
  refine q_aload_n C dX4_errorsIfSet_0 1 0 rfl rfl ?_
  refine q_get (k := 0) (j := 0) (f := 1) C hinX4 f21 (fun _ h => h) (by decide) rfl dX4_errorsIfSet_1 4 rfl rfl rfl rfl ?_
  refine q_callV (k := 3) (ci := 2) (n := 0) (rest := []) (Rr := [[(h0, .inr (3, [.ref aB, .ref aL, .ref aS, .int (sc 3), .int (sc 5), .int (sc 6), .int (sc 7), .int (sc 8), .int (sc 9), .int (sc 10), .int (sc 11)]))], wA, wB]) C rfl (k_isL_recv hL) rfl (c_X2_nextPosition l hZ hI hN aL ln wL hL) gX4_errorsIfSet_X2_nextPosition rfl rfl rfl (by decide +kernel) B.1 ⟨Nat.le_of_ble_eq_true rfl, Nat.le_of_ble_eq_true rfl⟩ rfl rfl (Nat.le_of_ble_eq_true rfl) dX4_errorsIfSet_4 ⟨Nat.le_of_ble_eq_true rfl, Nat.le_of_ble_eq_true rfl⟩ [3] [0, 1, 2] (by decide : ([3] ++ ([0, 1, 2] : List Nat)).Perm (List.range 4)) rfl rfl 7 rfl (fun v0 R0 t0 ht0 hp0 => ?_)
  obtain ⟨rfl, rfl⟩ := hp0
  refine q_eqs (st' := [.int (nI (k_np ln))]) rfl ?_
  refine q_reord [1, 2, 3, 0] (by decide : ([1, 2, 3, 0] : List Nat).Perm (List.range 4)) (Rs' := [[(h0, .inr (3, [.ref aB, .ref aL, .ref aS, .int (sc 3), .int (sc 5), .int (sc 6), .int (sc 7), .int (sc 8), .int (sc 9), .int (sc 10), .int (sc 11)]))], wA, wB, wL]) rfl rfl ?_
  have hc4 : k_np ln ≤ 5 * (ln).length := (k_np_le _).2
  have hd4 : 3 * (ln).length ≤ k_np ln := (k_np_le _).1
  refine q_istore_n C dX4_errorsIfSet_7 8 rfl [(3, .int (nI (k_np ln))), (0, .ref h0), (1, .int (nI c)), (2, .int (nI t))] (by decide) rfl ?_
  refine q_iconst (v := nI 0) C dX4_errorsIfSet_8 9 rfl (by decide) ?_
  refine q_istore C dX4_errorsIfSet_9 11 rfl [(4, .int (nI 0)), (3, .int (nI (k_np ln))), (0, .ref h0), (1, .int (nI c)), (2, .int (nI t))] (by decide) rfl ?_
  refine q_iconst (v := nI 0) C dX4_errorsIfSet_11 12 rfl (by decide) ?_
  refine q_istore C dX4_errorsIfSet_12 14 rfl [(5, .int (nI 0)), (4, .int (nI 0)), (3, .int (nI (k_np ln))), (0, .ref h0), (1, .int (nI c)), (2, .int (nI t))] (by decide) rfl ?_
  have lp : ∀ (kk : Nat) (d : Nat) (k : Nat) (q : Nat), t - d < kk → ∀ (hd : d ≤ t), ∀ (hq : q = k_pd bx ln c d), ∀ (hqb : q ≤ 200 + 5 * d), ∀ (hk : k = k_cnt (fun j => k_xd bx c j != c) d), ∀ (hkd : k ≤ d), ∀ (hu : ∀ u, u < d → u < (bx c).length ∧ nI (k_pd bx ln c u + k_wd (k_xd bx c u)) ≤ sc 0), q_V p9 l e9 R s9 m9 args below meth c9 D A 7 Q 0 0 14 [(5, .int (nI d)), (4, .int (nI k)), (3, .int (nI q)), (0, .ref h0), (1, .int (nI c)), (2, .int (nI t))] [] [[(h0, .inr (3, [.ref aB, .ref aL, .ref aS, .int (sc 3), .int (sc 5), .int (sc 6), .int (sc 7), .int (sc 8), .int (sc 9), .int (sc 10), .int (sc 11)]))], wA, wB, wL] := by
    intro kk
    induction kk with
    | zero => intro d k q hkk; exact absurd hkk (Nat.not_lt_zero _)
    | succ kk ih_lp =>
      intro d k q hkk hd hq hqb hk hkd hu
      refine q_iload C dX4_errorsIfSet_14 16 0 rfl rfl ?_
      refine q_iload_n C dX4_errorsIfSet_16 17 5 rfl rfl ?_
      refine q_icmp_ge C dX4_errorsIfSet_17 20 81 rfl (by decide) (nI_leI (by omega) (by omega)) (fun h17 => ?_) (fun h17 => ?_)
      · refine q_iload C dX4_errorsIfSet_81 83 1 rfl rfl ?_
        exact q_iret C B dX4_errorsIfSet_83 rfl rfl (fun t0 ht0 => ⟨by rw [k_ie_end (t := t) (fun u hv => hu u (by omega)), hk, show d = t by omega], rfl⟩)
      · refine q_aload_n C dX4_errorsIfSet_20 21 3 rfl rfl ?_
        refine q_get (k := 0) (j := 0) (f := 0) C hinX4 f12 (fun _ h => h) (by decide) rfl dX4_errorsIfSet_21 24 rfl rfl rfl rfl ?_
        refine q_iload_n C dX4_errorsIfSet_24 25 4 rfl rfl ?_
        refine q_iload C dX4_errorsIfSet_25 27 0 rfl rfl ?_
        refine q_callV (k := 2) (ci := 0) (n := 2) (rest := []) (Rr := [[(h0, .inr (3, [.ref aB, .ref aL, .ref aS, .int (sc 3), .int (sc 5), .int (sc 6), .int (sc 7), .int (sc 8), .int (sc 9), .int (sc 10), .int (sc 11)]))], wA, wL]) C rfl (k_isB_recv hB) rfl (c_X0_typeAt l hZ hI aB bx at0 wB hB c d (by omega) (by omega)) gX4_errorsIfSet_X0_typeAt rfl rfl rfl (by decide +kernel) B.1 ⟨Nat.le_of_ble_eq_true rfl, Nat.le_of_ble_eq_true rfl⟩ rfl rfl (Nat.le_of_ble_eq_true rfl) dX4_errorsIfSet_27 ⟨Nat.le_of_ble_eq_true rfl, Nat.le_of_ble_eq_true rfl⟩ [2] [0, 1, 3] (by decide : ([2] ++ ([0, 1, 3] : List Nat)).Perm (List.range 4)) rfl rfl 30 rfl (fun v0 R0 t0 ht0 hp0 => ?_)
        obtain ⟨rfl, rfl⟩ := hp0
        refine q_eqs (st' := [.int (k_top bx c d)]) rfl ?_
        refine q_reord [1, 2, 0, 3] (by decide : ([1, 2, 0, 3] : List Nat).Perm (List.range 4)) (Rs' := [[(h0, .inr (3, [.ref aB, .ref aL, .ref aS, .int (sc 3), .int (sc 5), .int (sc 6), .int (sc 7), .int (sc 8), .int (sc 9), .int (sc 10), .int (sc 11)]))], wA, wB, wL]) rfl rfl ?_
        refine q_topi (fun r27 hr27 => ?_)
        rcases Nat.lt_or_ge d (bx c).length with hdl | hdl
        · have hx : r27 = nI (k_xd bx c d) := hr27.trans (k_top_some hdl)
          have hxl : k_xd bx c d < 12 := k_at_lt (hok c hc).2 (by omega)
          obtain ⟨x, ex⟩ : ∃ x, x = k_xd bx c d := ⟨_, rfl⟩
          rw [← ex] at hx hxl
          subst hx
          refine q_istore C dX4_errorsIfSet_30 32 rfl [(6, .int (nI x)), (5, .int (nI d)), (4, .int (nI k)), (3, .int (nI q)), (0, .ref h0), (1, .int (nI c)), (2, .int (nI t))] (by decide) rfl ?_
          refine q_iload C dX4_errorsIfSet_32 34 0 rfl rfl ?_
          refine q_iconst (v := -1) C dX4_errorsIfSet_34 35 rfl (by decide) ?_
          refine q_icmp_eq (P := False) C dX4_errorsIfSet_35 38 53 rfl (by decide) (q_m1 (by omega)) (fun h35 => False.elim (by first | omega | simp_all)) (fun h35 => ?_)
          refine q_iload_n C dX4_errorsIfSet_38 39 3 rfl rfl ?_
          refine q_iload C dX4_errorsIfSet_39 41 0 rfl rfl ?_
          refine q_callSN (n := 1) (rest := [.int (nI q)]) (Rr := [[(h0, .inr (3, [.ref aB, .ref aL, .ref aS, .int (sc 3), .int (sc 5), .int (sc 6), .int (sc 7), .int (sc 8), .int (sc 9), .int (sc 10), .int (sc 11)]))], wA, wB, wL]) C (c_X6_widthOf l hZ hI x (by omega)) gX4_errorsIfSet_X6_widthOf_n73 rfl rfl rfl nst_X6_widthOf iniX6 (sta_X6_widthOf) (by decide +kernel) B.1 ⟨Nat.le_of_ble_eq_true rfl, Nat.le_of_ble_eq_true rfl⟩ rfl rfl (Nat.le_of_ble_eq_true rfl) dX4_errorsIfSet_41 ⟨Nat.le_of_ble_eq_true rfl, Nat.le_of_ble_eq_true rfl⟩ [] [0, 1, 2, 3] (by decide : ([] ++ ([0, 1, 2, 3] : List Nat)).Perm (List.range 4)) rfl rfl 44 rfl (fun v0 R0 t0 ht0 hp0 => ?_)
          obtain ⟨rfl, rfl⟩ := hp0
          refine q_eqs (st' := [.int (nI (k_wd x)), .int (nI q)]) rfl ?_
          refine q_eqR (Rs' := [[(h0, .inr (3, [.ref aB, .ref aL, .ref aS, .int (sc 3), .int (sc 5), .int (sc 6), .int (sc 7), .int (sc 8), .int (sc 9), .int (sc 10), .int (sc 11)]))], wA, wB, wL]) rfl ?_
          have hw41 : k_wd x ≤ 4 := (k_wd_le _).2
          refine q_iadd (v := nI (q + k_wd x)) C dX4_errorsIfSet_44 45 rfl (q_nadd (by omega)) ?_
          refine q_aload_n C dX4_errorsIfSet_45 46 4 rfl rfl ?_
          refine q_iconst (v := nI 0) C dX4_errorsIfSet_46 47 rfl (by decide) ?_
          refine q_callV (k := 0) (ci := 3) (n := 1) (rest := [.int (nI (q + k_wd x))]) (Rr := [wB, wL]) C rfl (k_isO_recv hOo) rfl (c_X4_settingAt l hZ hI h0 aB aL aS sc ([(h0, .inr (3, [.ref aB, .ref aL, .ref aS, .int (sc 3), .int (sc 5), .int (sc 6), .int (sc 7), .int (sc 8), .int (sc 9), .int (sc 10), .int (sc 11)]))]) hOo wA hA 0 (by omega)) gX4_errorsIfSet_X4_settingAt rfl rfl rfl (by decide +kernel) B.1 ⟨Nat.le_of_ble_eq_true rfl, Nat.le_of_ble_eq_true rfl⟩ rfl rfl (Nat.le_of_ble_eq_true rfl) dX4_errorsIfSet_47 ⟨Nat.le_of_ble_eq_true rfl, Nat.le_of_ble_eq_true rfl⟩ [0, 1] [2, 3] (by decide : ([0, 1] ++ ([2, 3] : List Nat)).Perm (List.range 4)) rfl rfl 50 rfl (fun v0 R0 t0 ht0 hp0 => ?_)
          obtain ⟨rfl, rfl⟩ := hp0
          refine q_eqs (st' := [.int (sc 0), .int (nI (q + k_wd x))]) rfl ?_
          refine q_eqR (Rs' := [[(h0, .inr (3, [.ref aB, .ref aL, .ref aS, .int (sc 3), .int (sc 5), .int (sc 6), .int (sc 7), .int (sc 8), .int (sc 9), .int (sc 10), .int (sc 11)]))], wA, wB, wL]) rfl ?_
          refine q_topi (fun r47 hr47 => ?_)
          refine q_icmp_le C dX4_errorsIfSet_50 53 56 rfl (by decide) Iff.rfl (fun h50 => ?_) (fun h50 => ?_)
          · refine q_iload_n C dX4_errorsIfSet_56 57 3 rfl rfl ?_
            refine q_iload C dX4_errorsIfSet_57 59 0 rfl rfl ?_
            refine q_callSN (n := 1) (rest := [.int (nI q)]) (Rr := [[(h0, .inr (3, [.ref aB, .ref aL, .ref aS, .int (sc 3), .int (sc 5), .int (sc 6), .int (sc 7), .int (sc 8), .int (sc 9), .int (sc 10), .int (sc 11)]))], wA, wB, wL]) C (c_X6_widthOf l hZ hI x (by omega)) gX4_errorsIfSet_X6_widthOf_n73 rfl rfl rfl nst_X6_widthOf iniX6 (sta_X6_widthOf) (by decide +kernel) B.1 ⟨Nat.le_of_ble_eq_true rfl, Nat.le_of_ble_eq_true rfl⟩ rfl rfl (Nat.le_of_ble_eq_true rfl) dX4_errorsIfSet_59 ⟨Nat.le_of_ble_eq_true rfl, Nat.le_of_ble_eq_true rfl⟩ [] [0, 1, 2, 3] (by decide : ([] ++ ([0, 1, 2, 3] : List Nat)).Perm (List.range 4)) rfl rfl 62 rfl (fun v0 R0 t0 ht0 hp0 => ?_)
            obtain ⟨rfl, rfl⟩ := hp0
            refine q_eqs (st' := [.int (nI (k_wd x)), .int (nI q)]) rfl ?_
            refine q_eqR (Rs' := [[(h0, .inr (3, [.ref aB, .ref aL, .ref aS, .int (sc 3), .int (sc 5), .int (sc 6), .int (sc 7), .int (sc 8), .int (sc 9), .int (sc 10), .int (sc 11)]))], wA, wB, wL]) rfl ?_
            have hw59 : k_wd x ≤ 4 := (k_wd_le _).2
            refine q_iconst (v := nI 1) C dX4_errorsIfSet_62 63 rfl (by decide) ?_
            refine q_iadd (v := nI (k_wd x + 1)) C dX4_errorsIfSet_63 64 rfl (q_nadd (by omega)) ?_
            refine q_iadd (v := nI (q + k_wd x + 1)) C dX4_errorsIfSet_64 65 rfl (q_nadd (by omega)) ?_
            refine q_istore_n C dX4_errorsIfSet_65 66 rfl [(3, .int (nI (q + k_wd x + 1))), (6, .int (nI x)), (5, .int (nI d)), (4, .int (nI k)), (0, .ref h0), (1, .int (nI c)), (2, .int (nI t))] (by decide) rfl ?_
            refine q_iload C dX4_errorsIfSet_66 68 1 rfl rfl ?_
            refine q_iload_n C dX4_errorsIfSet_68 69 5 rfl rfl ?_
            refine q_icmp_eq C dX4_errorsIfSet_69 72 75 rfl (by decide) (nI_eq (by omega) (by omega)) (fun h69 => ?_) (fun h69 => ?_)
            · refine q_iinc (v := nI (d + 1)) C dX4_errorsIfSet_75 78 2 rfl rfl (q_ninc1 (by omega)) [(5, .int (nI (d + 1))), (3, .int (nI (q + k_wd x + 1))), (6, .int (nI x)), (4, .int (nI k)), (0, .ref h0), (1, .int (nI c)), (2, .int (nI t))] (by decide) rfl ?_
              refine q_goto C dX4_errorsIfSet_78 14 (by decide) ?_
              refine q_sub (L' := [(5, .int (nI (d + 1))), (4, .int (nI k)), (3, .int (nI (q + k_wd x + 1))), (0, .ref h0), (1, .int (nI c)), (2, .int (nI t))]) [0, 3, 1, 4, 5, 6] rfl ?_
              exact ih_lp (d + 1) k (q + k_wd x + 1) (by omega) (by omega) (by unfold k_pd at hq ⊢; rw [k_sum_s, ← ex]; omega) (by omega) (by first | (rw [k_cnt_t (by simp [← ex]; omega)]; omega) | (rw [k_cnt_f (by simp [← ex]; omega)]; omega)) (by omega) (fun u hv => (Decidable.em (u = d)).elim (fun e => by subst e; exact ⟨hdl, by rw [← hq, ← ex, ← hr47]; exact h50⟩) (fun e => hu u (by omega)))
            · refine q_iinc (v := nI (k + 1)) C dX4_errorsIfSet_72 75 3 rfl rfl (q_ninc1 (by omega)) [(4, .int (nI (k + 1))), (3, .int (nI (q + k_wd x + 1))), (6, .int (nI x)), (5, .int (nI d)), (0, .ref h0), (1, .int (nI c)), (2, .int (nI t))] (by decide) rfl ?_
              refine q_iinc (v := nI (d + 1)) C dX4_errorsIfSet_75 78 3 rfl rfl (q_ninc1 (by omega)) [(5, .int (nI (d + 1))), (4, .int (nI (k + 1))), (3, .int (nI (q + k_wd x + 1))), (6, .int (nI x)), (0, .ref h0), (1, .int (nI c)), (2, .int (nI t))] (by decide) rfl ?_
              refine q_goto C dX4_errorsIfSet_78 14 (by decide) ?_
              refine q_sub (L' := [(5, .int (nI (d + 1))), (4, .int (nI (k + 1))), (3, .int (nI (q + k_wd x + 1))), (0, .ref h0), (1, .int (nI c)), (2, .int (nI t))]) [0, 1, 2, 4, 5, 6] rfl ?_
              exact ih_lp (d + 1) (k + 1) (q + k_wd x + 1) (by omega) (by omega) (by unfold k_pd at hq ⊢; rw [k_sum_s, ← ex]; omega) (by omega) (by first | (rw [k_cnt_t (by simp [← ex]; omega)]; omega) | (rw [k_cnt_f (by simp [← ex]; omega)]; omega)) (by omega) (fun u hv => (Decidable.em (u = d)).elim (fun e => by subst e; exact ⟨hdl, by rw [← hq, ← ex, ← hr47]; exact h50⟩) (fun e => hu u (by omega)))
          · refine q_iload C dX4_errorsIfSet_53 55 2 rfl rfl ?_
            exact q_iret C B dX4_errorsIfSet_55 rfl rfl (fun t0 ht0 => ⟨by rw [k_ie_stop (d := d) (by omega) (fun z => h50 (by rw [hr47, hq, ex]; exact z.2)) hu, hk], rfl⟩)
        · rw [k_top_none (by omega)] at hr27; subst hr27
          refine q_istore C dX4_errorsIfSet_30 32 rfl [(6, .int (-1)), (5, .int (nI d)), (4, .int (nI k)), (3, .int (nI q)), (0, .ref h0), (1, .int (nI c)), (2, .int (nI t))] (by decide) rfl ?_
          refine q_iload C dX4_errorsIfSet_32 34 0 rfl rfl ?_
          refine q_iconst (v := -1) C dX4_errorsIfSet_34 35 rfl (by decide) ?_
          refine q_icmp_eq (P := True) C dX4_errorsIfSet_35 38 53 rfl (by decide) ⟨fun _ => trivial, fun _ => rfl⟩ (fun h35 => ?_) (fun h35 => False.elim (by first | omega | simp_all))
          refine q_iload C dX4_errorsIfSet_53 55 2 rfl rfl ?_
          exact q_iret C B dX4_errorsIfSet_55 rfl rfl (fun t0 ht0 => ⟨by rw [k_ie_stop (d := d) (by omega) (fun z => by omega) hu, hk], rfl⟩)
  refine q_sub (L' := [(5, .int (nI 0)), (4, .int (nI 0)), (3, .int (nI (k_np ln))), (0, .ref h0), (1, .int (nI c)), (2, .int (nI t))]) [0, 1, 2, 3, 4, 5] rfl ?_
  exact lp _ 0 0 (k_np ln) (Nat.lt_succ_self _) (by omega) rfl (by omega) rfl (by omega) (fun u hu => absurd hu (Nat.not_lt_zero u))
