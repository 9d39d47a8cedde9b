theorem c_X7_isBox_t (l : Launch) {D : va_G} {tys : List (ClassId × FieldType)} {Z : (Nat → Prop) → State → Heap → Prop} (hZ : q_St Z) {cI : ClassId} (hI : tys[0]? = some (cI, .int)) (v : Int32) (h : (0 : Int32) ≤ v ∧ v ≤ 11) : q_Ct l D tys Z yX7_isBox wsX7_isBox ({ frames := 2, cells := 0, slots := 0, locals := 72 } : Room) 0 0 [.int v] [] (fun v0 R0 _ => v0 = some (.int (nI 1)) ∧ R0 = []) := by
  have h2 := c_X7_isBox (D := D) l hZ hI v
  rw [decide_eq_true h] at h2
  exact h2

theorem c_X7_isBox_f (l : Launch) {D : va_G} {tys : List (ClassId × FieldType)} {Z : (Nat → Prop) → State → Heap → Prop} (hZ : q_St Z) {cI : ClassId} (hI : tys[0]? = some (cI, .int)) (v : Int32) (h : ¬ ((0 : Int32) ≤ v ∧ v ≤ 11)) : q_Ct l D tys Z yX7_isBox wsX7_isBox ({ frames := 2, cells := 0, slots := 0, locals := 72 } : Room) 0 0 [.int v] [] (fun v0 R0 _ => v0 = some (.int (nI 0)) ∧ R0 = []) := by
  have h2 := c_X7_isBox (D := D) l hZ hI v
  rw [decide_eq_false h] at h2
  exact h2

theorem c_X7_in_t (l : Launch) {D : va_G} {tys : List (ClassId × FieldType)} {Z : (Nat → Prop) → State → Heap → Prop} (hZ : q_St Z) {cI : ClassId} (hI : tys[0]? = some (cI, .int)) (v : Int32) (lo : Int32) (hi : Int32) (h : lo ≤ v ∧ v ≤ hi) : q_Ct l D tys Z yX7_in wsX7_in ({ frames := 1, cells := 0, slots := 0, locals := 42 } : Room) 0 0 [.int v, .int lo, .int hi] [] (fun v0 R0 _ => v0 = some (.int (nI 1)) ∧ R0 = []) := by
  have h2 := c_X7_in (D := D) l hZ hI v lo hi
  rw [decide_eq_true h] at h2
  exact h2

theorem c_X7_in_f (l : Launch) {D : va_G} {tys : List (ClassId × FieldType)} {Z : (Nat → Prop) → State → Heap → Prop} (hZ : q_St Z) {cI : ClassId} (hI : tys[0]? = some (cI, .int)) (v : Int32) (lo : Int32) (hi : Int32) (h : ¬ (lo ≤ v ∧ v ≤ hi)) : q_Ct l D tys Z yX7_in wsX7_in ({ frames := 1, cells := 0, slots := 0, locals := 42 } : Room) 0 0 [.int v, .int lo, .int hi] [] (fun v0 R0 _ => v0 = some (.int (nI 0)) ∧ R0 = []) := by
  have h2 := c_X7_in (D := D) l hZ hI v lo hi
  rw [decide_eq_false h] at h2
  exact h2

set_option maxHeartbeats 400000 in
set_option maxRecDepth 100000 in
theorem c_X7_fixes (l : Launch) {D : va_G} {tys : List (ClassId × FieldType)} {Z : (Nat → Prop) → State → Heap → Prop} (hZ : q_St Z) {cI : ClassId} (hI : tys[0]? = some (cI, .int)) (h0 : Nat) (aS : Nat) (aZ : Nat) (aV : Nat) (aN : Nat) (aU : Nat) (aD : Nat) (fd : Nat → Int32) (hh : Int64) (wP : va_W) (hP : k_isP cI h0 aS aZ aV aN aU aD fd hh wP) (bx : k_Bx) (at0 : Nat) (ln : List (Nat × Nat)) (sc : Nat → Int32) (wQ : va_W) (hQ : k_isQ cI aS bx at0 ln sc wQ) (k : Nat) (hk : k < ln.length) (hw0 : k_wc bx ln sc k = 0) : q_Ct l D tys Z yX7_fixes wsX7_fixes ({ frames := 3, cells := 0, slots := 0, locals := 102 } : Room) 0 0 [.ref h0, .int (nI k)] [wP, wQ] (fun v0 R0 _ => v0 = some (.int (nI (k_er (k_rep ln k (k_la ln k).2)))) ∧ ∃ wQ', k_isQ cI aS ((k_cor (bx, at0, ln, sc) k).1) at0 (k_rep ln k (k_la ln k).2) (upd (upd sc 8 (sc 8 + nI 1)) 3 (-1)) wQ' ∧ R0 = [wP, wQ']) := by
  have hcI := hI
  refine q_ct (cc := cX7_fixes) (maxL := 3) (ret := (some .int)) (own := RX7) (by decide) rfl hZ (Nat.le_of_ble_eq_true rfl) rfl ?_
  intro p9 e9 R s9 m9 args below meth c9 A Q C B
  have hts := C.2.2.2.2.1
  have hinX7 : ∀ w ∈ u_ws RX7 TX7 16, w ∈ wsX7_fixes := by decide +kernel
  have f7 := hts (.fieldLink RX7 7 "SortCasesModel" "s" "[I") (by decide +kernel)
  refine q_eqL (L' := [(0, .ref h0), (1, .int (nI k))]) rfl ?_
  obtain ⟨hw1, ⟨k0, hk0⟩, hw3⟩ := k_wc_inv hw0
  obtain ⟨k1, hk1⟩ := k_rt_put (b := k_bb ln sc k) (x := (k_la ln k).1) hk0
  have hk2 := k_rt_lt hk1
  refine q_aload_n C dX7_fixes_0 1 0 rfl rfl ?_
  obtain rfl := hP
  have hPo1 : k_isP cI h0 aS aZ aV aN aU aD fd hh [(h0, .inr (6, [.int (fd 0), .ref aS, .ref aZ, .ref aV, .int (fd 4), .ref aN, .int (fd 6), .ref aU, .int (fd 8), .int (fd 9), .int (fd 10), .ref aD, .int (fd 12), .int (fd 13), .int (fd 14), .long hh]))] := rfl
  refine q_get (k := 0) (j := 0) (f := 1) C hinX7 f7 (fun _ h => h) (by decide) rfl dX7_fixes_1 4 rfl rfl rfl rfl ?_
  refine q_bipush (v := nI 54) C dX7_fixes_4 6 rfl (by decide) ?_
  refine q_iload_n C dX7_fixes_6 7 1 rfl rfl ?_
  refine q_iadd (v := nI (k + 54)) C dX7_fixes_7 8 rfl (q_nadd (by omega)) ?_
  obtain ⟨hat2, hok2, hlok2, f2, hm2, rfl⟩ := hQ
  have hll2 := hlok2.1
  have hQo2 : k_isQ cI aS bx at0 ln sc [(aS, .inl (cI, 350, .inl f2))] := ⟨hat2, hok2, hlok2, f2, hm2, rfl⟩
  refine q_iald (k := 1) (j := 0) (v := nI ((k_la ln k).2)) C dX7_fixes_8 9 rfl rfl rfl hcI (k + 54) rfl (by omega) (by decide) ((hm2.2.2.2.1 k (by omega)).2) ?_
  have hla8_1 : (k_la ln k).2 < 12 := (k_la_lt hlok2 (by omega)).2
  refine q_istore_n C dX7_fixes_9 10 rfl [(2, .int (nI ((k_la ln k).2))), (0, .ref h0), (1, .int (nI k))] (by decide) rfl ?_
  refine q_aload_n C dX7_fixes_10 11 1 rfl rfl ?_
  refine q_aload_n C dX7_fixes_11 12 1 rfl rfl ?_
  refine q_iload_n C dX7_fixes_12 13 2 rfl rfl ?_
  refine q_callV (k := 0) (ci := 6) (n := 1) (rest := [.ref h0]) (Rr := []) C rfl (k_isP_recv hPo1) rfl (c_X7_boxFor l hZ hI h0 aS aZ aV aN aU aD fd hh ([(h0, .inr (6, [.int (fd 0), .ref aS, .ref aZ, .ref aV, .int (fd 4), .ref aN, .int (fd 6), .ref aU, .int (fd 8), .int (fd 9), .int (fd 10), .ref aD, .int (fd 12), .int (fd 13), .int (fd 14), .long hh]))]) hPo1 bx at0 ln sc ([(aS, .inl (cI, 350, .inl f2))]) hQo2 k (by omega)) gX7_fixes_X7_boxFor rfl rfl rfl (by decide +kernel) B.1 ⟨Nat.le_of_ble_eq_true rfl, Nat.le_of_ble_eq_true rfl⟩ rfl rfl (Nat.le_of_ble_eq_true rfl) dX7_fixes_13 ⟨Nat.le_of_ble_eq_true rfl, Nat.le_of_ble_eq_true rfl⟩ [0, 1] [] (by decide : ([0, 1] ++ ([] : List Nat)).Perm (List.range 2)) rfl rfl 16 rfl (fun v0 R0 t0 ht0 hp0 => ?_)
  obtain ⟨rfl, rfl⟩ := hp0
  refine q_eqs (st' := [.int (nI (k_bb ln sc k)), .ref h0]) rfl ?_
  refine q_eqR (Rs' := [[(h0, .inr (6, [.int (fd 0), .ref aS, .ref aZ, .ref aV, .int (fd 4), .ref aN, .int (fd 6), .ref aU, .int (fd 8), .int (fd 9), .int (fd 10), .ref aD, .int (fd 12), .int (fd 13), .int (fd 14), .long hh]))], [(aS, .inl (cI, 350, .inl f2))]]) rfl ?_
  have ht13 : k_bb ln sc k < 12 := k_bb_lt hQo2.2.2.1 (by omega)
  refine q_aload_n C dX7_fixes_16 17 1 rfl rfl ?_
  refine q_get (k := 0) (j := 0) (f := 1) C hinX7 f7 (fun _ h => h) (by decide) rfl dX7_fixes_17 20 rfl rfl rfl rfl ?_
  refine q_bipush (v := nI 13) C dX7_fixes_20 22 rfl (by decide) ?_
  refine q_iload_n C dX7_fixes_22 23 2 rfl rfl ?_
  refine q_iadd (v := nI (k + 13)) C dX7_fixes_23 24 rfl (q_nadd (by omega)) ?_
  refine q_iald (k := 1) (j := 0) (v := nI ((k_la ln k).1)) C dX7_fixes_24 25 rfl rfl rfl hcI (k + 13) rfl (by omega) (by decide) ((hm2.2.2.2.1 k (by omega)).1) ?_
  have hla24_2 : (k_la ln k).1 < 12 := (k_la_lt hlok2 (by omega)).1
  refine q_callV (k := 0) (ci := 6) (n := 2) (rest := []) (Rr := []) C rfl (k_isP_recv hPo1) rfl (c_X7_puts l hZ hI h0 aS aZ aV aN aU aD fd hh ([(h0, .inr (6, [.int (fd 0), .ref aS, .ref aZ, .ref aV, .int (fd 4), .ref aN, .int (fd 6), .ref aU, .int (fd 8), .int (fd 9), .int (fd 10), .ref aD, .int (fd 12), .int (fd 13), .int (fd 14), .long hh]))]) hPo1 bx at0 ln sc ([(aS, .inl (cI, 350, .inl f2))]) hQo2 (k_bb ln sc k) ((k_la ln k).1) (by omega) (by omega) (by omega)) gX7_fixes_X7_puts rfl rfl rfl (by decide +kernel) B.1 ⟨Nat.le_of_ble_eq_true rfl, Nat.le_of_ble_eq_true rfl⟩ rfl rfl (Nat.le_of_ble_eq_true rfl) dX7_fixes_25 ⟨Nat.le_of_ble_eq_true rfl, Nat.le_of_ble_eq_true rfl⟩ [0, 1] [] (by decide : ([0, 1] ++ ([] : List Nat)).Perm (List.range 2)) rfl rfl 28 rfl (fun v0 R0 t0 ht0 hp0 => ?_)
  obtain ⟨rfl, wQ_25, hwQ_25, rfl⟩ := hp0
  refine q_eqs (st' := []) rfl ?_
  refine q_eqR (Rs' := [[(h0, .inr (6, [.int (fd 0), .ref aS, .ref aZ, .ref aV, .int (fd 4), .ref aN, .int (fd 6), .ref aU, .int (fd 8), .int (fd 9), .int (fd 10), .ref aD, .int (fd 12), .int (fd 13), .int (fd 14), .long hh]))], wQ_25]) rfl ?_
  refine q_aload_n C dX7_fixes_28 29 1 rfl rfl ?_
  refine q_get (k := 0) (j := 0) (f := 1) C hinX7 f7 (fun _ h => h) (by decide) rfl dX7_fixes_29 32 rfl rfl rfl rfl ?_
  refine q_bipush (v := nI 13) C dX7_fixes_32 34 rfl (by decide) ?_
  refine q_iload_n C dX7_fixes_34 35 2 rfl rfl ?_
  refine q_iadd (v := nI (k + 13)) C dX7_fixes_35 36 rfl (q_nadd (by omega)) ?_
  refine q_aload_n C dX7_fixes_36 37 1 rfl rfl ?_
  refine q_iload_n C dX7_fixes_37 38 0 rfl rfl ?_
  refine q_aload_n C dX7_fixes_38 39 1 rfl rfl ?_
  refine q_iload_n C dX7_fixes_39 40 0 rfl rfl ?_
  refine q_callV (k := 0) (ci := 6) (n := 1) (rest := [.int (nI ((k_la ln k).2)), .ref h0, .int (nI (k + 13)), .ref aS]) (Rr := []) C rfl (k_isP_recv hPo1) rfl (c_X7_right l hZ hI h0 aS aZ aV aN aU aD fd hh ([(h0, .inr (6, [.int (fd 0), .ref aS, .ref aZ, .ref aV, .int (fd 4), .ref aN, .int (fd 6), .ref aU, .int (fd 8), .int (fd 9), .int (fd 10), .ref aD, .int (fd 12), .int (fd 13), .int (fd 14), .long hh]))]) hPo1 (k_put bx (k_bb ln sc k) ((k_la ln k).1)) at0 ln sc wQ_25 hwQ_25 ((k_la ln k).2) (by omega)) gX7_fixes_X7_right rfl rfl rfl (by decide +kernel) B.1 ⟨Nat.le_of_ble_eq_true rfl, Nat.le_of_ble_eq_true rfl⟩ rfl rfl (Nat.le_of_ble_eq_true rfl) dX7_fixes_40 ⟨Nat.le_of_ble_eq_true rfl, Nat.le_of_ble_eq_true rfl⟩ [0, 1] [] (by decide : ([0, 1] ++ ([] : List Nat)).Perm (List.range 2)) rfl rfl 43 rfl (fun v0 R0 t0 ht0 hp0 => ?_)
  obtain ⟨rfl, rfl⟩ := hp0
  refine q_eqs (st' := [.int (k_rv (k_rt (k_put bx (k_bb ln sc k) ((k_la ln k).1)) ((k_la ln k).2))), .int (nI ((k_la ln k).2)), .ref h0, .int (nI (k + 13)), .ref aS]) rfl ?_
  refine q_eqR (Rs' := [[(h0, .inr (6, [.int (fd 0), .ref aS, .ref aZ, .ref aV, .int (fd 4), .ref aN, .int (fd 6), .ref aU, .int (fd 8), .int (fd 9), .int (fd 10), .ref aD, .int (fd 12), .int (fd 13), .int (fd 14), .long hh]))], wQ_25]) rfl ?_
  refine q_topi (fun r40 hr40 => ?_)
  refine q_eqs (st' := [.int (nI k1), .int (nI ((k_la ln k).2)), .ref h0, .int (nI (k + 13)), .ref aS]) (by rw [hr40, hk1]; rfl) ?_
  refine q_callV (k := 0) (ci := 6) (n := 2) (rest := [.int (nI (k + 13)), .ref aS]) (Rr := []) C rfl (k_isP_recv hPo1) rfl (c_X7_takes l hZ hI h0 aS aZ aV aN aU aD fd hh ([(h0, .inr (6, [.int (fd 0), .ref aS, .ref aZ, .ref aV, .int (fd 4), .ref aN, .int (fd 6), .ref aU, .int (fd 8), .int (fd 9), .int (fd 10), .ref aD, .int (fd 12), .int (fd 13), .int (fd 14), .long hh]))]) hPo1 (k_put bx (k_bb ln sc k) ((k_la ln k).1)) at0 ln sc wQ_25 hwQ_25 ((k_la ln k).2) k1 (by omega) hk2.1) gX7_fixes_X7_takes rfl rfl rfl (by decide +kernel) B.1 ⟨Nat.le_of_ble_eq_true rfl, Nat.le_of_ble_eq_true rfl⟩ rfl rfl (Nat.le_of_ble_eq_true rfl) dX7_fixes_43 ⟨Nat.le_of_ble_eq_true rfl, Nat.le_of_ble_eq_true rfl⟩ [0, 1] [] (by decide : ([0, 1] ++ ([] : List Nat)).Perm (List.range 2)) rfl rfl 46 rfl (fun v0 R0 t0 ht0 hp0 => ?_)
  obtain ⟨rfl, wQ_43, hwQ_43, rfl⟩ := hp0
  refine q_eqs (st' := [.int (nI (k_at ((k_put bx (k_bb ln sc k) ((k_la ln k).1)) ((k_la ln k).2)) k1)), .int (nI (k + 13)), .ref aS]) rfl ?_
  refine q_eqR (Rs' := [[(h0, .inr (6, [.int (fd 0), .ref aS, .ref aZ, .ref aV, .int (fd 4), .ref aN, .int (fd 6), .ref aU, .int (fd 8), .int (fd 9), .int (fd 10), .ref aD, .int (fd 12), .int (fd 13), .int (fd 14), .long hh]))], wQ_43]) rfl ?_
  refine q_eqs (st' := [.int (nI ((k_la ln k).2)), .int (nI (k + 13)), .ref aS]) (by rw [hk2.2]) ?_
  obtain ⟨hat3, hok3, hlok3, f3, hm3, rfl⟩ := hwQ_43
  have hll3 := hlok3.1
  have hQo3 : k_isQ cI aS (k_cut (k_put bx (k_bb ln sc k) ((k_la ln k).1)) ((k_la ln k).2) k1) at0 ln sc [(aS, .inl (cI, 350, .inl f3))] := ⟨hat3, hok3, hlok3, f3, hm3, rfl⟩
  refine q_iast (k := 1) (j := 0) C dX7_fixes_46 47 rfl rfl rfl hcI (k + 13) rfl (by omega) (by decide) [[(h0, .inr (6, [.int (fd 0), .ref aS, .ref aZ, .ref aV, .int (fd 4), .ref aN, .int (fd 6), .ref aU, .int (fd 8), .int (fd 9), .int (fd 10), .ref aD, .int (fd 12), .int (fd 13), .int (fd 14), .long hh]))], [(aS, .inl (cI, 350, .inl (upd f3 (k + 13) (nI ((k_la ln k).2)))))]] rfl ?_
  have hmr3 := k_MR_rep (x := (k_la ln k).2) hlok3 hm3 (show k < (ln).length by omega)
  have hlr3 : k_Lok (k_rep ln k ((k_la ln k).2)) := k_Lok_rep hlok3 (by omega) (by omega)
  have hQa3 : k_isQ cI aS (k_cut (k_put bx (k_bb ln sc k) ((k_la ln k).1)) ((k_la ln k).2) k1) at0 (k_rep ln k ((k_la ln k).2)) sc [(aS, .inl (cI, 350, .inl (upd f3 (k + 13) (nI ((k_la ln k).2)))))] := ⟨hat3, hok3, hlr3, _, hmr3, rfl⟩
  obtain ⟨wA3, eA3⟩ : ∃ w : va_W, w = [(aS, .inl (cI, 350, .inl (upd f3 (k + 13) (nI ((k_la ln k).2)))))] := ⟨_, rfl⟩
  rw [← eA3] at hQa3
  refine q_eqR (Rs' := [[(h0, .inr (6, [.int (fd 0), .ref aS, .ref aZ, .ref aV, .int (fd 4), .ref aN, .int (fd 6), .ref aU, .int (fd 8), .int (fd 9), .int (fd 10), .ref aD, .int (fd 12), .int (fd 13), .int (fd 14), .long hh]))], wA3]) (by rw [eA3]) ?_
  refine q_aload_n C dX7_fixes_47 48 1 rfl rfl ?_
  refine q_get (k := 0) (j := 0) (f := 1) C hinX7 f7 (fun _ h => h) (by decide) rfl dX7_fixes_48 51 rfl rfl rfl rfl ?_
  refine q_bipush (v := nI 8) C dX7_fixes_51 53 rfl (by decide) ?_
  refine q_dup2 C dX7_fixes_53 54 rfl rfl rfl ?_
  obtain ⟨hat4, hok4, hlok4, f4, hm4, rfl⟩ := hQa3
  have hll4 := hlok4.1
  have hQo4 : k_isQ cI aS (k_cut (k_put bx (k_bb ln sc k) ((k_la ln k).1)) ((k_la ln k).2) k1) at0 (k_rep ln k ((k_la ln k).2)) sc [(aS, .inl (cI, 350, .inl f4))] := ⟨hat4, hok4, hlok4, f4, hm4, rfl⟩
  refine q_iald (k := 1) (j := 0) (v := sc 8) C dX7_fixes_54 55 rfl rfl rfl hcI 8 rfl (by omega) (by decide) (hm4.1 8 (by decide) (by decide)) ?_
  refine q_iconst (v := nI 1) C dX7_fixes_55 56 rfl (by decide) ?_
  refine q_iadd (v := (sc 8) + (nI 1)) C dX7_fixes_56 57 rfl rfl ?_
  refine q_iast (k := 1) (j := 0) C dX7_fixes_57 58 rfl rfl rfl hcI 8 rfl (by omega) (by decide) [[(h0, .inr (6, [.int (fd 0), .ref aS, .ref aZ, .ref aV, .int (fd 4), .ref aN, .int (fd 6), .ref aU, .int (fd 8), .int (fd 9), .int (fd 10), .ref aD, .int (fd 12), .int (fd 13), .int (fd 14), .long hh]))], [(aS, .inl (cI, 350, .inl (upd f4 8 ((sc 8) + (nI 1)))))]] rfl ?_
  have hmf5 : k_MR (upd f4 8 ((sc 8) + (nI 1))) (k_cut (k_put bx (k_bb ln sc k) ((k_la ln k).1)) ((k_la ln k).2) k1) at0 (k_rep ln k ((k_la ln k).2)) (upd sc 8 ((sc 8) + (nI 1))) := k_MR_sc hm4 (by decide) (by decide)
  have haf5 : at0 < 12 := hat4
  have hQf5 : k_isQ cI aS (k_cut (k_put bx (k_bb ln sc k) ((k_la ln k).1)) ((k_la ln k).2) k1) at0 (k_rep ln k ((k_la ln k).2)) (upd sc 8 ((sc 8) + (nI 1))) [(aS, .inl (cI, 350, .inl (upd f4 8 ((sc 8) + (nI 1)))))] := ⟨haf5, hok4, hlok4, _, hmf5, rfl⟩
  refine q_aload_n C dX7_fixes_58 59 1 rfl rfl ?_
  refine q_get (k := 0) (j := 0) (f := 1) C hinX7 f7 (fun _ h => h) (by decide) rfl dX7_fixes_59 62 rfl rfl rfl rfl ?_
  refine q_iconst (v := nI 3) C dX7_fixes_62 63 rfl (by decide) ?_
  refine q_iconst (v := -1) C dX7_fixes_63 64 rfl (by decide) ?_
  refine q_iast (k := 1) (j := 0) C dX7_fixes_64 65 rfl rfl rfl hcI 3 rfl (by omega) (by decide) [[(h0, .inr (6, [.int (fd 0), .ref aS, .ref aZ, .ref aV, .int (fd 4), .ref aN, .int (fd 6), .ref aU, .int (fd 8), .int (fd 9), .int (fd 10), .ref aD, .int (fd 12), .int (fd 13), .int (fd 14), .long hh]))], [(aS, .inl (cI, 350, .inl (upd (upd f4 8 ((sc 8) + (nI 1))) 3 (-1))))]] rfl ?_
  have hmf6 : k_MR (upd (upd f4 8 ((sc 8) + (nI 1))) 3 (-1)) (k_cut (k_put bx (k_bb ln sc k) ((k_la ln k).1)) ((k_la ln k).2) k1) at0 (k_rep ln k ((k_la ln k).2)) (upd (upd sc 8 ((sc 8) + (nI 1))) 3 (-1)) := k_MR_sc hmf5 (by decide) (by decide)
  have haf6 : at0 < 12 := haf5
  have hQf6 : k_isQ cI aS (k_cut (k_put bx (k_bb ln sc k) ((k_la ln k).1)) ((k_la ln k).2) k1) at0 (k_rep ln k ((k_la ln k).2)) (upd (upd sc 8 ((sc 8) + (nI 1))) 3 (-1)) [(aS, .inl (cI, 350, .inl (upd (upd f4 8 ((sc 8) + (nI 1))) 3 (-1))))] := ⟨haf6, hok4, hlok4, _, hmf6, rfl⟩
  refine q_aload_n C dX7_fixes_65 66 1 rfl rfl ?_
  refine q_callV (k := 0) (ci := 6) (n := 0) (rest := []) (Rr := []) C rfl (k_isP_recv hPo1) rfl (c_X7_errors l hZ hI h0 aS aZ aV aN aU aD fd hh ([(h0, .inr (6, [.int (fd 0), .ref aS, .ref aZ, .ref aV, .int (fd 4), .ref aN, .int (fd 6), .ref aU, .int (fd 8), .int (fd 9), .int (fd 10), .ref aD, .int (fd 12), .int (fd 13), .int (fd 14), .long hh]))]) hPo1 (k_cut (k_put bx (k_bb ln sc k) ((k_la ln k).1)) ((k_la ln k).2) k1) at0 (k_rep ln k ((k_la ln k).2)) (upd (upd sc 8 ((sc 8) + (nI 1))) 3 (-1)) ([(aS, .inl (cI, 350, .inl (upd (upd f4 8 ((sc 8) + (nI 1))) 3 (-1))))]) hQf6) gX7_fixes_X7_errors rfl rfl rfl (by decide +kernel) B.1 ⟨Nat.le_of_ble_eq_true rfl, Nat.le_of_ble_eq_true rfl⟩ rfl rfl (Nat.le_of_ble_eq_true rfl) dX7_fixes_66 ⟨Nat.le_of_ble_eq_true rfl, Nat.le_of_ble_eq_true rfl⟩ [0, 1] [] (by decide : ([0, 1] ++ ([] : List Nat)).Perm (List.range 2)) rfl rfl 69 rfl (fun v0 R0 t0 ht0 hp0 => ?_)
  obtain ⟨rfl, rfl⟩ := hp0
  refine q_eqs (st' := [.int (nI (k_er (k_rep ln k ((k_la ln k).2))))]) rfl ?_
  refine q_eqR (Rs' := [[(h0, .inr (6, [.int (fd 0), .ref aS, .ref aZ, .ref aV, .int (fd 4), .ref aN, .int (fd 6), .ref aU, .int (fd 8), .int (fd 9), .int (fd 10), .ref aD, .int (fd 12), .int (fd 13), .int (fd 14), .long hh]))], [(aS, .inl (cI, 350, .inl (upd (upd f4 8 ((sc 8) + (nI 1))) 3 (-1))))]]) rfl ?_
  have hc66 : k_er (k_rep ln k ((k_la ln k).2)) ≤ ((k_rep ln k ((k_la ln k).2))).length := k_er_le _
  exact q_iret C B dX7_fixes_69 rfl rfl (fun t0 ht0 => ⟨rfl, _, by show k_isQ cI aS (k_cut (k_cb bx ln sc k) (k_la ln k).2 ((k_rt (k_cb bx ln sc k) (k_la ln k).2).getD 0)) at0 _ _ _; rw [show k_rt (k_cb bx ln sc k) (k_la ln k).2 = some k1 from hk1]; exact hQf6, rfl⟩)

set_option maxHeartbeats 400000 in
set_option maxRecDepth 100000 in
theorem c_X7_isPlace (l : Launch) {D : va_G} {tys : List (ClassId × FieldType)} {Z : (Nat → Prop) → State → Heap → Prop} (hZ : q_St Z) {cI : ClassId} (hI : tys[0]? = some (cI, .int)) (h0 : Nat) (aS : Nat) (aZ : Nat) (aV : Nat) (aN : Nat) (aU : Nat) (aD : Nat) (fd : Nat → Int32) (hh : Int64) (wP : va_W) (hP : k_isP cI h0 aS aZ aV aN aU aD fd hh wP) (bx : k_Bx) (at0 : Nat) (ln : List (Nat × Nat)) (sc : Nat → Int32) (wQ : va_W) (hQ : k_isQ cI aS bx at0 ln sc wQ) (v : Int32) : q_Ct l D tys Z yX7_isPlace wsX7_isPlace ({ frames := 2, cells := 0, slots := 0, locals := 72 } : Room) 0 0 [.ref h0, .int v] [wP, wQ] (fun v0 R0 _ => v0 = some (.int (q_b (k_has ln v))) ∧ R0 = [wP, wQ]) := by
  have hcI := hI
  refine q_ct (cc := cX7_isPlace) (maxL := 2) (ret := (some .boolean)) (own := RX7) (by decide) rfl hZ (Nat.le_of_ble_eq_true rfl) rfl ?_
  intro p9 e9 R s9 m9 args below meth c9 A Q C B
  have hts := C.2.2.2.2.1
  have hinX7 : ∀ w ∈ u_ws RX7 TX7 16, w ∈ wsX7_isPlace := by decide +kernel
  have f7 := hts (.fieldLink RX7 7 "SortCasesModel" "s" "[I") (by decide +kernel)
  refine q_eqL (L' := [(0, .ref h0), (1, .int v)]) rfl ?_
  refine q_iload_n C dX7_isPlace_0 1 1 rfl rfl ?_
  refine q_iconst (v := nI 0) C dX7_isPlace_1 2 rfl (by decide) ?_
  refine q_aload_n C dX7_isPlace_2 3 0 rfl rfl ?_
  obtain rfl := hP
  have hPo1 : k_isP cI h0 aS aZ aV aN aU aD fd hh [(h0, .inr (6, [.int (fd 0), .ref aS, .ref aZ, .ref aV, .int (fd 4), .ref aN, .int (fd 6), .ref aU, .int (fd 8), .int (fd 9), .int (fd 10), .ref aD, .int (fd 12), .int (fd 13), .int (fd 14), .long hh]))] := rfl
  refine q_get (k := 0) (j := 0) (f := 1) C hinX7 f7 (fun _ h => h) (by decide) rfl dX7_isPlace_3 6 rfl rfl rfl rfl ?_
  refine q_bipush (v := nI 12) C dX7_isPlace_6 8 rfl (by decide) ?_
  obtain ⟨hat2, hok2, hlok2, f2, hm2, rfl⟩ := hQ
  have hll2 := hlok2.1
  have hQo2 : k_isQ cI aS bx at0 ln sc [(aS, .inl (cI, 350, .inl f2))] := ⟨hat2, hok2, hlok2, f2, hm2, rfl⟩
  refine q_iald (k := 1) (j := 0) (v := nI ln.length) C dX7_isPlace_8 9 rfl rfl rfl hcI 12 rfl (by omega) (by decide) (hm2.2.2.1) ?_
  refine q_iconst (v := nI 1) C dX7_isPlace_9 10 rfl (by decide) ?_
  refine q_isub (v := k_pl ln.length) C dX7_isPlace_10 11 rfl rfl ?_
  refine q_callS (n := 3) (rest := []) (Rr := [[(h0, .inr (6, [.int (fd 0), .ref aS, .ref aZ, .ref aV, .int (fd 4), .ref aN, .int (fd 6), .ref aU, .int (fd 8), .int (fd 9), .int (fd 10), .ref aD, .int (fd 12), .int (fd 13), .int (fd 14), .long hh]))], [(aS, .inl (cI, 350, .inl f2))]]) C (c_X7_in l hZ hI v (nI 0) (k_pl ln.length)) gX7_isPlace_X7_in rfl rfl rfl (by decide +kernel) B.1 ⟨Nat.le_of_ble_eq_true rfl, Nat.le_of_ble_eq_true rfl⟩ rfl rfl (Nat.le_of_ble_eq_true rfl) dX7_isPlace_11 ⟨Nat.le_of_ble_eq_true rfl, Nat.le_of_ble_eq_true rfl⟩ [] [0, 1] (by decide : ([] ++ ([0, 1] : List Nat)).Perm (List.range 2)) rfl rfl 14 rfl (fun v0 R0 t0 ht0 hp0 => ?_)
  obtain ⟨rfl, rfl⟩ := hp0
  refine q_eqs (st' := [.int (q_b (decide ((nI 0) ≤ v ∧ v ≤ (k_pl ln.length))))]) rfl ?_
  refine q_eqR (Rs' := [[(h0, .inr (6, [.int (fd 0), .ref aS, .ref aZ, .ref aV, .int (fd 4), .ref aN, .int (fd 6), .ref aU, .int (fd 8), .int (fd 9), .int (fd 10), .ref aD, .int (fd 12), .int (fd 13), .int (fd 14), .long hh]))], [(aS, .inl (cI, 350, .inl f2))]]) rfl ?_
  exact q_zret C B (q_b_nar _) dX7_isPlace_14 rfl rfl (fun t0 ht0 => ⟨by rw [← k_has_pl (ln := ln) (by omega)]; rfl, rfl⟩)

set_option maxHeartbeats 400000 in
set_option maxRecDepth 100000 in
theorem c_X7_canReturn (l : Launch) {D : va_G} {tys : List (ClassId × FieldType)} {Z : (Nat → Prop) → State → Heap → Prop} (hZ : q_St Z) {cI : ClassId} (hI : tys[0]? = some (cI, .int)) (h0 : Nat) (aS : Nat) (aZ : Nat) (aV : Nat) (aN : Nat) (aU : Nat) (aD : Nat) (fd : Nat → Int32) (hh : Int64) (wP : va_W) (hP : k_isP cI h0 aS aZ aV aN aU aD fd hh wP) (bx : k_Bx) (at0 : Nat) (ln : List (Nat × Nat)) (sc : Nat → Int32) (wQ : va_W) (hQ : k_isQ cI aS bx at0 ln sc wQ) : q_Ct l D tys Z yX7_canReturn wsX7_canReturn ({ frames := 2, cells := 0, slots := 0, locals := 72 } : Room) 0 0 [.ref h0] [wP, wQ] (fun v0 R0 _ => v0 = some (.int (q_b (decide (k_wy bx ln sc = 0)))) ∧ R0 = [wP, wQ]) := by
  have hcI := hI
  refine q_ct (cc := cX7_canReturn) (maxL := 5) (ret := (some .boolean)) (own := RX7) (by decide) rfl hZ (Nat.le_of_ble_eq_true rfl) rfl ?_
  intro p9 e9 R s9 m9 args below meth c9 A Q C B
  have hts := C.2.2.2.2.1
  have hinX7 : ∀ w ∈ u_ws RX7 TX7 16, w ∈ wsX7_canReturn := by decide +kernel
  have f7 := hts (.fieldLink RX7 7 "SortCasesModel" "s" "[I") (by decide +kernel)
  refine q_eqL (L' := [(0, .ref h0)]) rfl ?_
  obtain ⟨hat1, hok1, hlok1, f1, hm1, rfl⟩ := hQ
  have hll1 := hlok1.1
  have hQo1 : k_isQ cI aS bx at0 ln sc [(aS, .inl (cI, 350, .inl f1))] := ⟨hat1, hok1, hlok1, f1, hm1, rfl⟩
  refine q_iconst (v := nI 1) C dX7_canReturn_0 1 rfl (by decide) ?_
  refine q_istore_n C dX7_canReturn_1 2 rfl [(1, .int (nI 1)), (0, .ref h0)] (by decide) rfl ?_
  refine q_iconst (v := nI 0) C dX7_canReturn_2 3 rfl (by decide) ?_
  refine q_istore_n C dX7_canReturn_3 4 rfl [(2, .int (nI 0)), (1, .int (nI 1)), (0, .ref h0)] (by decide) rfl ?_
  have lp : ∀ (kk : Nat) (i : Nat) (z : Bool), 12 - i < kk → ∀ (hi : i ≤ 12), ∀ (hz : z = true ↔ ∀ b, b < i → (bx b).length + k_rc ln sc b ln.length ≤ 20), q_V p9 l e9 R s9 m9 args below meth c9 D A 5 Q 0 0 4 [(2, .int (nI i)), (1, .int (q_b z)), (0, .ref h0)] [] [wP, [(aS, .inl (cI, 350, .inl f1))]] := by
    intro kk
    induction kk with
    | zero => intro i z hkk; exact absurd hkk (Nat.not_lt_zero _)
    | succ kk ih_lp =>
      intro i z hkk hi hz
      refine q_iload_n C dX7_canReturn_4 5 0 rfl rfl ?_
      refine q_bipush (v := nI 12) C dX7_canReturn_5 7 rfl (by decide) ?_
      refine q_icmp_ge C dX7_canReturn_7 10 77 rfl (by decide) (nI_leI (by omega) (by omega)) (fun h7 => ?_) (fun h7 => ?_)
      · refine q_iload_n C dX7_canReturn_77 78 1 rfl rfl ?_
        exact q_zret C B (q_b_nar _) dX7_canReturn_78 rfl rfl (fun t0 ht0 => ⟨by rw [← k_wy_iff (z := z) (by rw [hz, show i = 12 by omega])], rfl⟩)
      · refine q_aload_n C dX7_canReturn_10 11 2 rfl rfl ?_
        refine q_iload_n C dX7_canReturn_11 12 0 rfl rfl ?_
        refine q_callV (k := 0) (ci := 6) (n := 1) (rest := []) (Rr := []) C rfl (k_isP_recv hP) rfl (c_X7_many_q l hZ hI h0 aS aZ aV aN aU aD fd hh wP hP bx at0 ln sc ([(aS, .inl (cI, 350, .inl f1))]) hQo1 i (by omega)) gX7_canReturn_X7_many rfl rfl rfl (by decide +kernel) B.1 ⟨Nat.le_of_ble_eq_true rfl, Nat.le_of_ble_eq_true rfl⟩ rfl rfl (Nat.le_of_ble_eq_true rfl) dX7_canReturn_12 ⟨Nat.le_of_ble_eq_true rfl, Nat.le_of_ble_eq_true rfl⟩ [0, 1] [] (by decide : ([0, 1] ++ ([] : List Nat)).Perm (List.range 2)) rfl rfl 15 rfl (fun v0 R0 t0 ht0 hp0 => ?_)
        obtain ⟨rfl, rfl⟩ := hp0
        refine q_eqs (st' := [.int (nI ((bx i).length))]) rfl ?_
        refine q_eqR (Rs' := [wP, [(aS, .inl (cI, 350, .inl f1))]]) rfl ?_
        have hh12 : (bx i).length ≤ 20 := (hQo1.2.1 i (by omega)).1
        refine q_istore_n C dX7_canReturn_15 16 rfl [(3, .int (nI ((bx i).length))), (2, .int (nI i)), (1, .int (q_b z)), (0, .ref h0)] (by decide) rfl ?_
        refine q_iconst (v := nI 0) C dX7_canReturn_16 17 rfl (by decide) ?_
        refine q_istore C dX7_canReturn_17 19 rfl [(4, .int (nI 0)), (3, .int (nI ((bx i).length))), (2, .int (nI i)), (1, .int (q_b z)), (0, .ref h0)] (by decide) rfl ?_
        have lp2 : ∀ (kk : Nat) (j : Nat) (n : Nat), ln.length - j < kk → ∀ (hj : j ≤ ln.length), ∀ (hn : n = (bx i).length + k_rc ln sc i j), ∀ (hn2 : n ≤ 20 + j), q_V p9 l e9 R s9 m9 args below meth c9 D A 5 Q 0 0 19 [(4, .int (nI j)), (3, .int (nI n)), (2, .int (nI i)), (1, .int (q_b z)), (0, .ref h0)] [] [wP, [(aS, .inl (cI, 350, .inl f1))]] := by
          intro kk
          induction kk with
          | zero => intro j n hkk; exact absurd hkk (Nat.not_lt_zero _)
          | succ kk ih_lp2 =>
            intro j n hkk hj hn hn2
            refine q_iload C dX7_canReturn_19 21 0 rfl rfl ?_
            refine q_aload_n C dX7_canReturn_21 22 4 rfl rfl ?_
            obtain rfl := hP
            have hPo2 : k_isP cI h0 aS aZ aV aN aU aD fd hh [(h0, .inr (6, [.int (fd 0), .ref aS, .ref aZ, .ref aV, .int (fd 4), .ref aN, .int (fd 6), .ref aU, .int (fd 8), .int (fd 9), .int (fd 10), .ref aD, .int (fd 12), .int (fd 13), .int (fd 14), .long hh]))] := rfl
            refine q_get (k := 0) (j := 0) (f := 1) C hinX7 f7 (fun _ h => h) (by decide) rfl dX7_canReturn_22 25 rfl rfl rfl rfl ?_
            refine q_bipush (v := nI 12) C dX7_canReturn_25 27 rfl (by decide) ?_
            refine q_iald (k := 1) (j := 0) (v := nI ln.length) C dX7_canReturn_27 28 rfl rfl rfl hcI 12 rfl (by omega) (by decide) (hm1.2.2.1) ?_
            refine q_icmp_ge C dX7_canReturn_28 31 55 rfl (by decide) (nI_leI (by omega) (by omega)) (fun h28 => ?_) (fun h28 => ?_)
            · refine q_iload_n C dX7_canReturn_55 56 3 rfl rfl ?_
              refine q_if_eq (P := z = false) C dX7_canReturn_56 59 69 rfl (by decide) q_b0 (fun h56 => ?_) (fun h56 => ?_)
              · refine q_iconst (v := nI 0) C dX7_canReturn_69 70 rfl (by decide) ?_
                refine q_istore_n C dX7_canReturn_70 71 rfl [(1, .int (nI 0)), (4, .int (nI j)), (3, .int (nI n)), (2, .int (nI i)), (0, .ref h0)] (by decide) rfl ?_
                refine q_iinc (v := nI (i + 1)) C dX7_canReturn_71 74 3 rfl rfl (q_ninc1 (by omega)) [(2, .int (nI (i + 1))), (1, .int (nI 0)), (4, .int (nI j)), (3, .int (nI n)), (0, .ref h0)] (by decide) rfl ?_
                refine q_goto C dX7_canReturn_74 4 (by decide) ?_
                refine q_sub (L' := [(2, .int (nI (i + 1))), (1, .int (nI 0)), (0, .ref h0)]) [0, 1, 4] rfl ?_
                exact ih_lp (i + 1) false (by omega) (by omega) ⟨fun y => Bool.noConfusion y, fun y => by have h5 : z = true := hz.mpr (fun u hu => y u (by omega)); rw [h56] at h5; cases h5⟩
              · refine q_iload_n C dX7_canReturn_59 60 1 rfl rfl ?_
                refine q_bipush (v := nI 20) C dX7_canReturn_60 62 rfl (by decide) ?_
                refine q_icmp_gt C dX7_canReturn_62 65 69 rfl (by decide) (nI_ltI (by omega) (by omega)) (fun h62 => ?_) (fun h62 => ?_)
                · refine q_iconst (v := nI 0) C dX7_canReturn_69 70 rfl (by decide) ?_
                  refine q_istore_n C dX7_canReturn_70 71 rfl [(1, .int (nI 0)), (4, .int (nI j)), (3, .int (nI n)), (2, .int (nI i)), (0, .ref h0)] (by decide) rfl ?_
                  refine q_iinc (v := nI (i + 1)) C dX7_canReturn_71 74 3 rfl rfl (q_ninc1 (by omega)) [(2, .int (nI (i + 1))), (1, .int (nI 0)), (4, .int (nI j)), (3, .int (nI n)), (0, .ref h0)] (by decide) rfl ?_
                  refine q_goto C dX7_canReturn_74 4 (by decide) ?_
                  refine q_sub (L' := [(2, .int (nI (i + 1))), (1, .int (nI 0)), (0, .ref h0)]) [0, 1, 4] rfl ?_
                  exact ih_lp (i + 1) false (by omega) (by omega) ⟨fun y => Bool.noConfusion y, fun y => absurd (y i (by omega)) (by rw [show j = ln.length by omega] at hn; omega)⟩
                · refine q_iconst (v := nI 1) C dX7_canReturn_65 66 rfl (by decide) ?_
                  refine q_goto C dX7_canReturn_66 70 (by decide) ?_
                  refine q_istore_n C dX7_canReturn_70 71 rfl [(1, .int (nI 1)), (4, .int (nI j)), (3, .int (nI n)), (2, .int (nI i)), (0, .ref h0)] (by decide) rfl ?_
                  refine q_iinc (v := nI (i + 1)) C dX7_canReturn_71 74 3 rfl rfl (q_ninc1 (by omega)) [(2, .int (nI (i + 1))), (1, .int (nI 1)), (4, .int (nI j)), (3, .int (nI n)), (0, .ref h0)] (by decide) rfl ?_
                  refine q_goto C dX7_canReturn_74 4 (by decide) ?_
                  refine q_sub (L' := [(2, .int (nI (i + 1))), (1, .int (nI 1)), (0, .ref h0)]) [0, 1, 4] rfl ?_
                  exact ih_lp (i + 1) true (by omega) (by omega) ⟨fun _ u hu => (Decidable.em (u = i)).elim (fun e => by subst e; rw [show j = ln.length by omega] at hn; omega) (fun e => hz.mp (by simpa using h56) u (by omega)), fun _ => rfl⟩
            · refine q_iload_n C dX7_canReturn_31 32 1 rfl rfl ?_
              refine q_aload_n C dX7_canReturn_32 33 4 rfl rfl ?_
              refine q_iload C dX7_canReturn_33 35 0 rfl rfl ?_
              refine q_callV (k := 0) (ci := 6) (n := 1) (rest := [.int (nI n)]) (Rr := []) C rfl (k_isP_recv hPo2) rfl (c_X7_boxFor l hZ hI h0 aS aZ aV aN aU aD fd hh ([(h0, .inr (6, [.int (fd 0), .ref aS, .ref aZ, .ref aV, .int (fd 4), .ref aN, .int (fd 6), .ref aU, .int (fd 8), .int (fd 9), .int (fd 10), .ref aD, .int (fd 12), .int (fd 13), .int (fd 14), .long hh]))]) hPo2 bx at0 ln sc ([(aS, .inl (cI, 350, .inl f1))]) hQo1 j (by omega)) gX7_canReturn_X7_boxFor rfl rfl rfl (by decide +kernel) B.1 ⟨Nat.le_of_ble_eq_true rfl, Nat.le_of_ble_eq_true rfl⟩ rfl rfl (Nat.le_of_ble_eq_true rfl) dX7_canReturn_35 ⟨Nat.le_of_ble_eq_true rfl, Nat.le_of_ble_eq_true rfl⟩ [0, 1] [] (by decide : ([0, 1] ++ ([] : List Nat)).Perm (List.range 2)) rfl rfl 38 rfl (fun v0 R0 t0 ht0 hp0 => ?_)
              obtain ⟨rfl, rfl⟩ := hp0
              refine q_eqs (st' := [.int (nI (k_bb ln sc j)), .int (nI n)]) rfl ?_
              refine q_eqR (Rs' := [[(h0, .inr (6, [.int (fd 0), .ref aS, .ref aZ, .ref aV, .int (fd 4), .ref aN, .int (fd 6), .ref aU, .int (fd 8), .int (fd 9), .int (fd 10), .ref aD, .int (fd 12), .int (fd 13), .int (fd 14), .long hh]))], [(aS, .inl (cI, 350, .inl f1))]]) rfl ?_
              have ht35 : k_bb ln sc j < 12 := k_bb_lt hQo1.2.2.1 (by omega)
              refine q_iload_n C dX7_canReturn_38 39 2 rfl rfl ?_
              refine q_icmp_ne C dX7_canReturn_39 42 46 rfl (by decide) (nI_eq (by omega) (by omega)) (fun h39 => ?_) (fun h39 => ?_)
              · refine q_iconst (v := nI 0) C dX7_canReturn_46 47 rfl (by decide) ?_
                refine q_iadd (v := nI n) C dX7_canReturn_47 48 rfl (q_nadd (by omega)) ?_
                refine q_istore_n C dX7_canReturn_48 49 rfl [(3, .int (nI n)), (4, .int (nI j)), (2, .int (nI i)), (1, .int (q_b z)), (0, .ref h0)] (by decide) rfl ?_
                refine q_iinc (v := nI (j + 1)) C dX7_canReturn_49 52 1 rfl rfl (q_ninc1 (by omega)) [(4, .int (nI (j + 1))), (3, .int (nI n)), (2, .int (nI i)), (1, .int (q_b z)), (0, .ref h0)] (by decide) rfl ?_
                refine q_goto C dX7_canReturn_52 19 (by decide) ?_
                refine q_sub (L' := [(4, .int (nI (j + 1))), (3, .int (nI n)), (2, .int (nI i)), (1, .int (q_b z)), (0, .ref h0)]) [0, 1, 2, 3, 4] rfl ?_
                exact ih_lp2 (j + 1) n (by omega) (by omega) (by unfold k_rc at hn ⊢; first | (rw [k_cnt_t (by simp; omega)]; omega) | (rw [k_cnt_f (by simp; omega)]; omega)) (by omega)
              · refine q_iconst (v := nI 1) C dX7_canReturn_42 43 rfl (by decide) ?_
                refine q_goto C dX7_canReturn_43 47 (by decide) ?_
                refine q_iadd (v := nI (n + 1)) C dX7_canReturn_47 48 rfl (q_nadd (by omega)) ?_
                refine q_istore_n C dX7_canReturn_48 49 rfl [(3, .int (nI (n + 1))), (4, .int (nI j)), (2, .int (nI i)), (1, .int (q_b z)), (0, .ref h0)] (by decide) rfl ?_
                refine q_iinc (v := nI (j + 1)) C dX7_canReturn_49 52 1 rfl rfl (q_ninc1 (by omega)) [(4, .int (nI (j + 1))), (3, .int (nI (n + 1))), (2, .int (nI i)), (1, .int (q_b z)), (0, .ref h0)] (by decide) rfl ?_
                refine q_goto C dX7_canReturn_52 19 (by decide) ?_
                refine q_sub (L' := [(4, .int (nI (j + 1))), (3, .int (nI (n + 1))), (2, .int (nI i)), (1, .int (q_b z)), (0, .ref h0)]) [0, 1, 2, 3, 4] rfl ?_
                exact ih_lp2 (j + 1) (n + 1) (by omega) (by omega) (by unfold k_rc at hn ⊢; first | (rw [k_cnt_t (by simp; omega)]; omega) | (rw [k_cnt_f (by simp; omega)]; omega)) (by omega)
        refine q_sub (L' := [(4, .int (nI 0)), (3, .int (nI ((bx i).length))), (2, .int (nI i)), (1, .int (q_b z)), (0, .ref h0)]) [0, 1, 2, 3, 4] rfl ?_
        exact lp2 _ 0 ((bx i).length) (Nat.lt_succ_self _) (by omega) rfl (by omega)
  refine q_sub (L' := [(2, .int (nI 0)), (1, .int (nI 1)), (0, .ref h0)]) [0, 1, 2] rfl ?_
  exact lp _ 0 true (Nat.lt_succ_self _) (by omega) ⟨fun _ u hu => absurd hu (Nat.not_lt_zero u), fun _ => rfl⟩

set_option maxHeartbeats 400000 in
set_option maxRecDepth 100000 in
theorem c_X7_returns (l : Launch) {D : va_G} {tys : List (ClassId × FieldType)} {Z : (Nat → Prop) → State → Heap → Prop} (hZ : q_St Z) {cI : ClassId} (hI : tys[0]? = some (cI, .int)) (h0 : Nat) (aS : Nat) (aZ : Nat) (aV : Nat) (aN : Nat) (aU : Nat) (aD : Nat) (fd : Nat → Int32) (hh : Int64) (wP : va_W) (hP : k_isP cI h0 aS aZ aV aN aU aD fd hh wP) (bx : k_Bx) (at0 : Nat) (ln : List (Nat × Nat)) (sc : Nat → Int32) (wQ : va_W) (hQ : k_isQ cI aS bx at0 ln sc wQ) (hwy : k_wy bx ln sc = 0) : q_Ct l D tys Z yX7_returns wsX7_returns ({ frames := 4, cells := 0, slots := 0, locals := 132 } : Room) 0 0 [.ref h0] [wP, wQ] (fun v0 R0 _ => v0 = some (.int (nI (k_wr (k_rb bx ln sc (ln).length)))) ∧ ∃ wQ', k_isQ cI aS (k_rb bx ln sc (ln).length) at0 (([] : List (Nat × Nat))) (upd (upd sc 9 (sc 9 + nI 1)) 3 (-1)) wQ' ∧ R0 = [wP, wQ']) := by
  have hcI := hI
  refine q_ct (cc := cX7_returns) (maxL := 2) (ret := (some .int)) (own := RX7) (by decide) rfl hZ (Nat.le_of_ble_eq_true rfl) rfl ?_
  intro p9 e9 R s9 m9 args below meth c9 A Q C B
  have hts := C.2.2.2.2.1
  have hinX7 : ∀ w ∈ u_ws RX7 TX7 16, w ∈ wsX7_returns := by decide +kernel
  have f7 := hts (.fieldLink RX7 7 "SortCasesModel" "s" "[I") (by decide +kernel)
  refine q_eqL (L' := [(0, .ref h0)]) rfl ?_
  have hlok := hQ.2.2.1
  have hll := hlok.1
  refine q_aload_n C dX7_returns_0 1 0 rfl rfl ?_
  obtain rfl := hP
  have hPo1 : k_isP cI h0 aS aZ aV aN aU aD fd hh [(h0, .inr (6, [.int (fd 0), .ref aS, .ref aZ, .ref aV, .int (fd 4), .ref aN, .int (fd 6), .ref aU, .int (fd 8), .int (fd 9), .int (fd 10), .ref aD, .int (fd 12), .int (fd 13), .int (fd 14), .long hh]))] := rfl
  refine q_get (k := 0) (j := 0) (f := 1) C hinX7 f7 (fun _ h => h) (by decide) rfl dX7_returns_1 4 rfl rfl rfl rfl ?_
  refine q_bipush (v := nI 12) C dX7_returns_4 6 rfl (by decide) ?_
  obtain ⟨hat2, hok2, hlok2, f2, hm2, rfl⟩ := hQ
  have hll2 := hlok2.1
  have hQo2 : k_isQ cI aS bx at0 ln sc [(aS, .inl (cI, 350, .inl f2))] := ⟨hat2, hok2, hlok2, f2, hm2, rfl⟩
  refine q_iald (k := 1) (j := 0) (v := nI ln.length) C dX7_returns_6 7 rfl rfl rfl hcI 12 rfl (by omega) (by decide) (hm2.2.2.1) ?_
  refine q_iconst (v := nI 1) C dX7_returns_7 8 rfl (by decide) ?_
  refine q_isub (v := k_pl ln.length) C dX7_returns_8 9 rfl rfl ?_
  refine q_istore_n C dX7_returns_9 10 rfl [(1, .int (k_pl ln.length)), (0, .ref h0)] (by decide) rfl ?_
  have lp : ∀ (kk : Nat) (n : Nat) (wb : va_W), n < kk → ∀ (hn : n ≤ ln.length), ∀ (hwb : k_isQ cI aS (k_rb bx ln sc (ln.length - n)) at0 ln sc wb), q_V p9 l e9 R s9 m9 args below meth c9 D A 2 Q 0 0 10 [(1, .int (k_pl n)), (0, .ref h0)] [] [[(h0, .inr (6, [.int (fd 0), .ref aS, .ref aZ, .ref aV, .int (fd 4), .ref aN, .int (fd 6), .ref aU, .int (fd 8), .int (fd 9), .int (fd 10), .ref aD, .int (fd 12), .int (fd 13), .int (fd 14), .long hh]))], wb] := by
    intro kk
    induction kk with
    | zero => intro n wb hkk; exact absurd hkk (Nat.not_lt_zero _)
    | succ kk ih_lp =>
      intro n wb hkk hn hwb
      refine q_iload_n C dX7_returns_10 11 0 rfl rfl ?_
      refine q_if_lt (P := n = 0) C dX7_returns_11 14 38 rfl (by decide) (k_pl_lt (by omega)) (fun h11 => ?_) (fun h11 => ?_)
      · obtain ⟨hat3, hok3, hlok3, f3, hm3, rfl⟩ := hwb
        have hll3 := hlok3.1
        have hQo3 : k_isQ cI aS ((k_rb bx ln sc (ln.length - n))) at0 ln sc [(aS, .inl (cI, 350, .inl f3))] := ⟨hat3, hok3, hlok3, f3, hm3, rfl⟩
        subst h11
        have hRr1 : k_isR cI aS f3 [(aS, .inl (cI, 350, .inl f3))] := rfl
        refine q_iconst (v := nI 0) C dX7_returns_38 39 rfl (by decide) ?_
        refine q_istore_n C dX7_returns_39 40 rfl [(1, .int (nI 0)), (0, .ref h0)] (by decide) rfl ?_
        have lp3 : ∀ (kk : Nat) (i : Nat) (g : Nat → Int32), 41 - i < kk → ∀ (hi : i ≤ 41), ∀ (hg : ∀ q, q < 12 ∨ 95 ≤ q → g q = f3 q), q_V p9 l e9 R s9 m9 args below meth c9 D A 2 Q 0 0 40 [(1, .int (nI i)), (0, .ref h0)] [] [[(h0, .inr (6, [.int (fd 0), .ref aS, .ref aZ, .ref aV, .int (fd 4), .ref aN, .int (fd 6), .ref aU, .int (fd 8), .int (fd 9), .int (fd 10), .ref aD, .int (fd 12), .int (fd 13), .int (fd 14), .long hh]))], [(aS, .inl (cI, 350, .inl g))]] := by
          intro kk
          induction kk with
          | zero => intro i g hkk; exact absurd hkk (Nat.not_lt_zero _)
          | succ kk ih_lp3 =>
            intro i g hkk hi hg
            refine q_iload_n C dX7_returns_40 41 0 rfl rfl ?_
            refine q_bipush (v := nI 41) C dX7_returns_41 43 rfl (by decide) ?_
            refine q_icmp_ge C dX7_returns_43 46 72 rfl (by decide) (nI_leI (by omega) (by omega)) (fun h43 => ?_) (fun h43 => ?_)
            · refine q_aload_n C dX7_returns_72 73 1 rfl rfl ?_
              refine q_get (k := 0) (j := 0) (f := 1) C hinX7 f7 (fun _ h => h) (by decide) rfl dX7_returns_73 76 rfl rfl rfl rfl ?_
              refine q_bipush (v := nI 12) C dX7_returns_76 78 rfl (by decide) ?_
              refine q_iconst (v := nI 0) C dX7_returns_78 79 rfl (by decide) ?_
              refine q_iast (k := 1) (j := 0) C dX7_returns_79 80 rfl rfl rfl hcI 12 rfl (by omega) (by decide) [[(h0, .inr (6, [.int (fd 0), .ref aS, .ref aZ, .ref aV, .int (fd 4), .ref aN, .int (fd 6), .ref aU, .int (fd 8), .int (fd 9), .int (fd 10), .ref aD, .int (fd 12), .int (fd 13), .int (fd 14), .long hh]))], [(aS, .inl (cI, 350, .inl (upd g 12 (nI 0))))]] rfl ?_
              have hRs4 : k_isR cI aS (upd g 12 (nI 0)) [(aS, .inl (cI, 350, .inl (upd g 12 (nI 0))))] := rfl
              have hQa2 : k_isQ cI aS (k_rb bx ln sc (ln.length - 0)) at0 [] sc [(aS, .inl (cI, 350, .inl (upd g 12 (nI 0))))] := ⟨hat3, hok3, k_Lok_nil, _, k_MR_nil hm3 hg, rfl⟩
              rw [Nat.sub_zero] at hQa2
              obtain ⟨wA2, eA2⟩ : ∃ w : va_W, w = [(aS, .inl (cI, 350, .inl (upd g 12 (nI 0))))] := ⟨_, rfl⟩
              rw [← eA2] at hQa2
              refine q_eqR (Rs' := [[(h0, .inr (6, [.int (fd 0), .ref aS, .ref aZ, .ref aV, .int (fd 4), .ref aN, .int (fd 6), .ref aU, .int (fd 8), .int (fd 9), .int (fd 10), .ref aD, .int (fd 12), .int (fd 13), .int (fd 14), .long hh]))], wA2]) (by rw [eA2]) ?_
              refine q_aload_n C dX7_returns_80 81 1 rfl rfl ?_
              refine q_get (k := 0) (j := 0) (f := 1) C hinX7 f7 (fun _ h => h) (by decide) rfl dX7_returns_81 84 rfl rfl rfl rfl ?_
              refine q_bipush (v := nI 9) C dX7_returns_84 86 rfl (by decide) ?_
              refine q_dup2 C dX7_returns_86 87 rfl rfl rfl ?_
              obtain ⟨hat5, hok5, hlok5, f5, hm5, rfl⟩ := hQa2
              have hll5 := hlok5.1
              have hQo5 : k_isQ cI aS ((k_rb bx ln sc ln.length)) at0 (([] : List (Nat × Nat))) sc [(aS, .inl (cI, 350, .inl f5))] := ⟨hat5, hok5, hlok5, f5, hm5, rfl⟩
              refine q_iald (k := 1) (j := 0) (v := sc 9) C dX7_returns_87 88 rfl rfl rfl hcI 9 rfl (by omega) (by decide) (hm5.1 9 (by decide) (by decide)) ?_
              refine q_iconst (v := nI 1) C dX7_returns_88 89 rfl (by decide) ?_
              refine q_iadd (v := (sc 9) + (nI 1)) C dX7_returns_89 90 rfl rfl ?_
              refine q_iast (k := 1) (j := 0) C dX7_returns_90 91 rfl rfl rfl hcI 9 rfl (by omega) (by decide) [[(h0, .inr (6, [.int (fd 0), .ref aS, .ref aZ, .ref aV, .int (fd 4), .ref aN, .int (fd 6), .ref aU, .int (fd 8), .int (fd 9), .int (fd 10), .ref aD, .int (fd 12), .int (fd 13), .int (fd 14), .long hh]))], [(aS, .inl (cI, 350, .inl (upd f5 9 ((sc 9) + (nI 1)))))]] rfl ?_
              have hmf6 : k_MR (upd f5 9 ((sc 9) + (nI 1))) ((k_rb bx ln sc ln.length)) at0 (([] : List (Nat × Nat))) (upd sc 9 ((sc 9) + (nI 1))) := k_MR_sc hm5 (by decide) (by decide)
              have haf6 : at0 < 12 := hat5
              have hQf6 : k_isQ cI aS ((k_rb bx ln sc ln.length)) at0 (([] : List (Nat × Nat))) (upd sc 9 ((sc 9) + (nI 1))) [(aS, .inl (cI, 350, .inl (upd f5 9 ((sc 9) + (nI 1)))))] := ⟨haf6, hok5, hlok5, _, hmf6, rfl⟩
              refine q_aload_n C dX7_returns_91 92 1 rfl rfl ?_
              refine q_get (k := 0) (j := 0) (f := 1) C hinX7 f7 (fun _ h => h) (by decide) rfl dX7_returns_92 95 rfl rfl rfl rfl ?_
              refine q_iconst (v := nI 3) C dX7_returns_95 96 rfl (by decide) ?_
              refine q_iconst (v := -1) C dX7_returns_96 97 rfl (by decide) ?_
              refine q_iast (k := 1) (j := 0) C dX7_returns_97 98 rfl rfl rfl hcI 3 rfl (by omega) (by decide) [[(h0, .inr (6, [.int (fd 0), .ref aS, .ref aZ, .ref aV, .int (fd 4), .ref aN, .int (fd 6), .ref aU, .int (fd 8), .int (fd 9), .int (fd 10), .ref aD, .int (fd 12), .int (fd 13), .int (fd 14), .long hh]))], [(aS, .inl (cI, 350, .inl (upd (upd f5 9 ((sc 9) + (nI 1))) 3 (-1))))]] rfl ?_
              have hmf7 : k_MR (upd (upd f5 9 ((sc 9) + (nI 1))) 3 (-1)) ((k_rb bx ln sc ln.length)) at0 (([] : List (Nat × Nat))) (upd (upd sc 9 ((sc 9) + (nI 1))) 3 (-1)) := k_MR_sc hmf6 (by decide) (by decide)
              have haf7 : at0 < 12 := haf6
              have hQf7 : k_isQ cI aS ((k_rb bx ln sc ln.length)) at0 (([] : List (Nat × Nat))) (upd (upd sc 9 ((sc 9) + (nI 1))) 3 (-1)) [(aS, .inl (cI, 350, .inl (upd (upd f5 9 ((sc 9) + (nI 1))) 3 (-1))))] := ⟨haf7, hok5, hlok5, _, hmf7, rfl⟩
              refine q_aload_n C dX7_returns_98 99 1 rfl rfl ?_
              refine q_callV (k := 0) (ci := 6) (n := 0) (rest := []) (Rr := []) C rfl (k_isP_recv hPo1) rfl (c_X7_wrong l hZ hI h0 aS aZ aV aN aU aD fd hh ([(h0, .inr (6, [.int (fd 0), .ref aS, .ref aZ, .ref aV, .int (fd 4), .ref aN, .int (fd 6), .ref aU, .int (fd 8), .int (fd 9), .int (fd 10), .ref aD, .int (fd 12), .int (fd 13), .int (fd 14), .long hh]))]) hPo1 ((k_rb bx ln sc ln.length)) at0 (([] : List (Nat × Nat))) (upd (upd sc 9 ((sc 9) + (nI 1))) 3 (-1)) ([(aS, .inl (cI, 350, .inl (upd (upd f5 9 ((sc 9) + (nI 1))) 3 (-1))))]) hQf7) gX7_returns_X7_wrong rfl rfl rfl (by decide +kernel) B.1 ⟨Nat.le_of_ble_eq_true rfl, Nat.le_of_ble_eq_true rfl⟩ rfl rfl (Nat.le_of_ble_eq_true rfl) dX7_returns_99 ⟨Nat.le_of_ble_eq_true rfl, Nat.le_of_ble_eq_true rfl⟩ [0, 1] [] (by decide : ([0, 1] ++ ([] : List Nat)).Perm (List.range 2)) rfl rfl 102 rfl (fun v0 R0 t0 ht0 hp0 => ?_)
              obtain ⟨rfl, rfl⟩ := hp0
              refine q_eqs (st' := [.int (nI (k_wr ((k_rb bx ln sc ln.length))))]) rfl ?_
              refine q_eqR (Rs' := [[(h0, .inr (6, [.int (fd 0), .ref aS, .ref aZ, .ref aV, .int (fd 4), .ref aN, .int (fd 6), .ref aU, .int (fd 8), .int (fd 9), .int (fd 10), .ref aD, .int (fd 12), .int (fd 13), .int (fd 14), .long hh]))], [(aS, .inl (cI, 350, .inl (upd (upd f5 9 ((sc 9) + (nI 1))) 3 (-1))))]]) rfl ?_
              exact q_iret C B dX7_returns_102 rfl rfl (fun t0 ht0 => ⟨rfl, _, hQf7, rfl⟩)
            · refine q_aload_n C dX7_returns_46 47 1 rfl rfl ?_
              refine q_get (k := 0) (j := 0) (f := 1) C hinX7 f7 (fun _ h => h) (by decide) rfl dX7_returns_47 50 rfl rfl rfl rfl ?_
              refine q_bipush (v := nI 13) C dX7_returns_50 52 rfl (by decide) ?_
              refine q_iload_n C dX7_returns_52 53 0 rfl rfl ?_
              refine q_iadd (v := nI (i + 13)) C dX7_returns_53 54 rfl (q_nadd (by omega)) ?_
              refine q_iconst (v := nI 0) C dX7_returns_54 55 rfl (by decide) ?_
              refine q_iast (k := 1) (j := 0) C dX7_returns_55 56 rfl rfl rfl hcI (i + 13) rfl (by omega) (by decide) [[(h0, .inr (6, [.int (fd 0), .ref aS, .ref aZ, .ref aV, .int (fd 4), .ref aN, .int (fd 6), .ref aU, .int (fd 8), .int (fd 9), .int (fd 10), .ref aD, .int (fd 12), .int (fd 13), .int (fd 14), .long hh]))], [(aS, .inl (cI, 350, .inl (upd g (i + 13) (nI 0))))]] rfl ?_
              have hRs8 : k_isR cI aS (upd g (i + 13) (nI 0)) [(aS, .inl (cI, 350, .inl (upd g (i + 13) (nI 0))))] := rfl
              refine q_aload_n C dX7_returns_56 57 1 rfl rfl ?_
              refine q_get (k := 0) (j := 0) (f := 1) C hinX7 f7 (fun _ h => h) (by decide) rfl dX7_returns_57 60 rfl rfl rfl rfl ?_
              refine q_bipush (v := nI 54) C dX7_returns_60 62 rfl (by decide) ?_
              refine q_iload_n C dX7_returns_62 63 0 rfl rfl ?_
              refine q_iadd (v := nI (i + 54)) C dX7_returns_63 64 rfl (q_nadd (by omega)) ?_
              refine q_iconst (v := nI 0) C dX7_returns_64 65 rfl (by decide) ?_
              refine q_iast (k := 1) (j := 0) C dX7_returns_65 66 rfl rfl rfl hcI (i + 54) rfl (by omega) (by decide) [[(h0, .inr (6, [.int (fd 0), .ref aS, .ref aZ, .ref aV, .int (fd 4), .ref aN, .int (fd 6), .ref aU, .int (fd 8), .int (fd 9), .int (fd 10), .ref aD, .int (fd 12), .int (fd 13), .int (fd 14), .long hh]))], [(aS, .inl (cI, 350, .inl (upd (upd g (i + 13) (nI 0)) (i + 54) (nI 0))))]] rfl ?_
              have hRs9 : k_isR cI aS (upd (upd g (i + 13) (nI 0)) (i + 54) (nI 0)) [(aS, .inl (cI, 350, .inl (upd (upd g (i + 13) (nI 0)) (i + 54) (nI 0))))] := rfl
              refine q_iinc (v := nI (i + 1)) C dX7_returns_66 69 0 rfl rfl (q_ninc1 (by omega)) [(1, .int (nI (i + 1))), (0, .ref h0)] (by decide) rfl ?_
              refine q_goto C dX7_returns_69 40 (by decide) ?_
              refine q_sub (L' := [(1, .int (nI (i + 1))), (0, .ref h0)]) [0, 1] rfl ?_
              exact ih_lp3 (i + 1) (upd (upd g (i + 13) (nI 0)) (i + 54) (nI 0)) (by omega) (by omega) (fun q hq => by rw [pk_un (by omega), pk_un (by omega)]; exact hg q hq)
        refine q_sub (L' := [(1, .int (nI 0)), (0, .ref h0)]) [0, 1] rfl ?_
        exact lp3 _ 0 f3 (Nat.lt_succ_self _) (by omega) (fun q _ => rfl)
      · refine q_eqL (L' := [(1, .int (nI (n - 1))), (0, .ref h0)]) (by rw [k_pl_s (by omega)]) ?_
        refine q_aload_n C dX7_returns_14 15 1 rfl rfl ?_
        refine q_aload_n C dX7_returns_15 16 1 rfl rfl ?_
        refine q_iload_n C dX7_returns_16 17 0 rfl rfl ?_
        refine q_callV (k := 0) (ci := 6) (n := 1) (rest := [.ref h0]) (Rr := []) C rfl (k_isP_recv hPo1) rfl (c_X7_boxFor l hZ hI h0 aS aZ aV aN aU aD fd hh ([(h0, .inr (6, [.int (fd 0), .ref aS, .ref aZ, .ref aV, .int (fd 4), .ref aN, .int (fd 6), .ref aU, .int (fd 8), .int (fd 9), .int (fd 10), .ref aD, .int (fd 12), .int (fd 13), .int (fd 14), .long hh]))]) hPo1 ((k_rb bx ln sc (ln.length - n))) at0 ln sc wb hwb (n - 1) (by omega)) gX7_returns_X7_boxFor rfl rfl rfl (by decide +kernel) B.1 ⟨Nat.le_of_ble_eq_true rfl, Nat.le_of_ble_eq_true rfl⟩ rfl rfl (Nat.le_of_ble_eq_true rfl) dX7_returns_17 ⟨Nat.le_of_ble_eq_true rfl, Nat.le_of_ble_eq_true rfl⟩ [0, 1] [] (by decide : ([0, 1] ++ ([] : List Nat)).Perm (List.range 2)) rfl rfl 20 rfl (fun v0 R0 t0 ht0 hp0 => ?_)
        obtain ⟨rfl, rfl⟩ := hp0
        refine q_eqs (st' := [.int (nI (k_bb ln sc (n - 1))), .ref h0]) rfl ?_
        refine q_eqR (Rs' := [[(h0, .inr (6, [.int (fd 0), .ref aS, .ref aZ, .ref aV, .int (fd 4), .ref aN, .int (fd 6), .ref aU, .int (fd 8), .int (fd 9), .int (fd 10), .ref aD, .int (fd 12), .int (fd 13), .int (fd 14), .long hh]))], wb]) rfl ?_
        have ht17 : k_bb ln sc (n - 1) < 12 := k_bb_lt hwb.2.2.1 (by omega)
        refine q_aload_n C dX7_returns_20 21 1 rfl rfl ?_
        refine q_get (k := 0) (j := 0) (f := 1) C hinX7 f7 (fun _ h => h) (by decide) rfl dX7_returns_21 24 rfl rfl rfl rfl ?_
        refine q_bipush (v := nI 13) C dX7_returns_24 26 rfl (by decide) ?_
        refine q_iload_n C dX7_returns_26 27 0 rfl rfl ?_
        refine q_iadd (v := nI (n + 12)) C dX7_returns_27 28 rfl (q_nadd (by omega)) ?_
        obtain ⟨hat10, hok10, hlok10, f10, hm10, rfl⟩ := hwb
        have hll10 := hlok10.1
        have hQo10 : k_isQ cI aS ((k_rb bx ln sc (ln.length - n))) at0 ln sc [(aS, .inl (cI, 350, .inl f10))] := ⟨hat10, hok10, hlok10, f10, hm10, rfl⟩
        refine q_iald (k := 1) (j := 0) (v := nI ((k_la ln (n - 1)).1)) C dX7_returns_28 29 rfl rfl rfl hcI (n + 12) rfl (by omega) (by decide) (by rw [show n + 12 = n - 1 + 13 by omega]; exact (hm10.2.2.2.1 (n - 1) (by omega)).1) ?_
        have hla28 : (k_la ln (n - 1)).1 < 12 := (k_la_lt hlok10 (by omega)).1
        refine q_callV (k := 0) (ci := 6) (n := 2) (rest := []) (Rr := []) C rfl (k_isP_recv hPo1) rfl (c_X7_puts l hZ hI h0 aS aZ aV aN aU aD fd hh ([(h0, .inr (6, [.int (fd 0), .ref aS, .ref aZ, .ref aV, .int (fd 4), .ref aN, .int (fd 6), .ref aU, .int (fd 8), .int (fd 9), .int (fd 10), .ref aD, .int (fd 12), .int (fd 13), .int (fd 14), .long hh]))]) hPo1 ((k_rb bx ln sc (ln.length - n))) at0 ln sc ([(aS, .inl (cI, 350, .inl f10))]) hQo10 (k_bb ln sc (n - 1)) ((k_la ln (n - 1)).1) (by omega) (by have hrm := k_rb_room (j := ln.length - n) hwy hlok (by omega); rw [show ln.length - 1 - (ln.length - n) = n - 1 by omega] at hrm; exact hrm) (by omega)) gX7_returns_X7_puts rfl rfl rfl (by decide +kernel) B.1 ⟨Nat.le_of_ble_eq_true rfl, Nat.le_of_ble_eq_true rfl⟩ rfl rfl (Nat.le_of_ble_eq_true rfl) dX7_returns_29 ⟨Nat.le_of_ble_eq_true rfl, Nat.le_of_ble_eq_true rfl⟩ [0, 1] [] (by decide : ([0, 1] ++ ([] : List Nat)).Perm (List.range 2)) rfl rfl 32 rfl (fun v0 R0 t0 ht0 hp0 => ?_)
        obtain ⟨rfl, wQ_29, hwQ_29, rfl⟩ := hp0
        refine q_eqs (st' := []) rfl ?_
        refine q_eqR (Rs' := [[(h0, .inr (6, [.int (fd 0), .ref aS, .ref aZ, .ref aV, .int (fd 4), .ref aN, .int (fd 6), .ref aU, .int (fd 8), .int (fd 9), .int (fd 10), .ref aD, .int (fd 12), .int (fd 13), .int (fd 14), .long hh]))], wQ_29]) rfl ?_
        refine q_iinc (v := k_pl (n - 1)) C dX7_returns_32 35 0 rfl rfl (k_pl_dec _) [(1, .int (k_pl (n - 1))), (0, .ref h0)] (by decide) rfl ?_
        refine q_goto C dX7_returns_35 10 (by decide) ?_
        refine q_sub (L' := [(1, .int (k_pl (n - 1))), (0, .ref h0)]) [0, 1] rfl ?_
        exact ih_lp (n - 1) wQ_29 (by omega) (by omega) (by rw [show ln.length - (n - 1) = ln.length - n + 1 by omega]; show k_isQ cI aS (k_put (k_rb bx ln sc (ln.length - n)) (k_bb ln sc (ln.length - 1 - (ln.length - n))) (k_la ln (ln.length - 1 - (ln.length - n))).1) at0 ln sc _; rw [show ln.length - 1 - (ln.length - n) = n - 1 by omega]; exact hwQ_29)
  refine q_sub (L' := [(1, .int (k_pl ln.length)), (0, .ref h0)]) [0, 1] rfl ?_
  exact lp _ ln.length ([(aS, .inl (cI, 350, .inl f2))]) (Nat.lt_succ_self _) (by omega) (by rw [Nat.sub_self]; exact hQo2)

set_option maxHeartbeats 400000 in
set_option maxRecDepth 100000 in
theorem c_X7_swaps (l : Launch) {D : va_G} {tys : List (ClassId × FieldType)} {Z : (Nat → Prop) → State → Heap → Prop} (hZ : q_St Z) {cI : ClassId} (hI : tys[0]? = some (cI, .int)) (h0 : Nat) (aS : Nat) (aZ : Nat) (aV : Nat) (aN : Nat) (aU : Nat) (aD : Nat) (fd : Nat → Int32) (hh : Int64) (wP : va_W) (hP : k_isP cI h0 aS aZ aV aN aU aD fd hh wP) (bx : k_Bx) (at0 : Nat) (ln : List (Nat × Nat)) (sc : Nat → Int32) (wQ : va_W) (hQ : k_isQ cI aS bx at0 ln sc wQ) (b : Nat) (o : Nat) (hb : b < 12) (ho : o < 12) : q_Ct l D tys Z yX7_swaps wsX7_swaps ({ frames := 4, cells := 0, slots := 0, locals := 132 } : Room) 0 0 [.ref h0, .int (nI b), .int (nI o)] [wP, wQ] (fun v0 R0 _ => v0 = some (.int (nI (k_wr (k_ex bx b o)))) ∧ ∃ wQ', k_isQ cI aS (k_ex bx b o) at0 ln (upd sc 3 (-1)) wQ' ∧ R0 = [wP, wQ']) := by
  have hcI := hI
  refine q_ct (cc := cX7_swaps) (maxL := 5) (ret := (some .int)) (own := RX7) (by decide) rfl hZ (Nat.le_of_ble_eq_true rfl) rfl ?_
  intro p9 e9 R s9 m9 args below meth c9 A Q C B
  have hts := C.2.2.2.2.1
  have hinX7 : ∀ w ∈ u_ws RX7 TX7 16, w ∈ wsX7_swaps := by decide +kernel
  have f7 := hts (.fieldLink RX7 7 "SortCasesModel" "s" "[I") (by decide +kernel)
  refine q_eqL (L' := [(0, .ref h0), (1, .int (nI b)), (2, .int (nI o))]) rfl ?_
  have hok := hQ.2.1
  have hlo := (hok o ho).1
  have hlb := (hok b hb).1
  refine q_aload_n C dX7_swaps_0 1 0 rfl rfl ?_
  obtain rfl := hP
  have hPo1 : k_isP cI h0 aS aZ aV aN aU aD fd hh [(h0, .inr (6, [.int (fd 0), .ref aS, .ref aZ, .ref aV, .int (fd 4), .ref aN, .int (fd 6), .ref aU, .int (fd 8), .int (fd 9), .int (fd 10), .ref aD, .int (fd 12), .int (fd 13), .int (fd 14), .long hh]))] := rfl
  refine q_get (k := 0) (j := 0) (f := 1) C hinX7 f7 (fun _ h => h) (by decide) rfl dX7_swaps_1 4 rfl rfl rfl rfl ?_
  refine q_iconst (v := nI 3) C dX7_swaps_4 5 rfl (by decide) ?_
  refine q_iconst (v := -1) C dX7_swaps_5 6 rfl (by decide) ?_
  obtain ⟨hat2, hok2, hlok2, f2, hm2, rfl⟩ := hQ
  have hll2 := hlok2.1
  have hQo2 : k_isQ cI aS bx at0 ln sc [(aS, .inl (cI, 350, .inl f2))] := ⟨hat2, hok2, hlok2, f2, hm2, rfl⟩
  refine q_iast (k := 1) (j := 0) C dX7_swaps_6 7 rfl rfl rfl hcI 3 rfl (by omega) (by decide) [[(h0, .inr (6, [.int (fd 0), .ref aS, .ref aZ, .ref aV, .int (fd 4), .ref aN, .int (fd 6), .ref aU, .int (fd 8), .int (fd 9), .int (fd 10), .ref aD, .int (fd 12), .int (fd 13), .int (fd 14), .long hh]))], [(aS, .inl (cI, 350, .inl (upd f2 3 (-1))))]] rfl ?_
  have hmf3 : k_MR (upd f2 3 (-1)) bx at0 ln (upd sc 3 (-1)) := k_MR_sc hm2 (by decide) (by decide)
  have haf3 : at0 < 12 := hat2
  have hQf3 : k_isQ cI aS bx at0 ln (upd sc 3 (-1)) [(aS, .inl (cI, 350, .inl (upd f2 3 (-1))))] := ⟨haf3, hok2, hlok2, _, hmf3, rfl⟩
  refine q_iload_n C dX7_swaps_7 8 1 rfl rfl ?_
  refine q_iload_n C dX7_swaps_8 9 2 rfl rfl ?_
  refine q_icmp_eq C dX7_swaps_9 12 73 rfl (by decide) (nI_eq (by omega) (by omega)) (fun h9 => ?_) (fun h9 => ?_)
  · have hex1 : k_isQ cI aS ((k_ex bx b o)) at0 ln (upd sc 3 (-1)) [(aS, .inl (cI, 350, .inl (upd f2 3 (-1))))] := by rw [show k_ex bx b o = bx by rw [k_ex, if_pos (by omega)]]; exact hQf3
    refine q_aload_n C dX7_swaps_73 74 0 rfl rfl ?_
    refine q_callV (k := 0) (ci := 6) (n := 0) (rest := []) (Rr := []) C rfl (k_isP_recv hPo1) rfl (c_X7_wrong l hZ hI h0 aS aZ aV aN aU aD fd hh ([(h0, .inr (6, [.int (fd 0), .ref aS, .ref aZ, .ref aV, .int (fd 4), .ref aN, .int (fd 6), .ref aU, .int (fd 8), .int (fd 9), .int (fd 10), .ref aD, .int (fd 12), .int (fd 13), .int (fd 14), .long hh]))]) hPo1 ((k_ex bx b o)) at0 ln (upd sc 3 (-1)) ([(aS, .inl (cI, 350, .inl (upd f2 3 (-1))))]) hex1) gX7_swaps_X7_wrong rfl rfl rfl (by decide +kernel) B.1 ⟨Nat.le_of_ble_eq_true rfl, Nat.le_of_ble_eq_true rfl⟩ rfl rfl (Nat.le_of_ble_eq_true rfl) dX7_swaps_74 ⟨Nat.le_of_ble_eq_true rfl, Nat.le_of_ble_eq_true rfl⟩ [0, 1] [] (by decide : ([0, 1] ++ ([] : List Nat)).Perm (List.range 2)) rfl rfl 77 rfl (fun v0 R0 t0 ht0 hp0 => ?_)
    obtain ⟨rfl, rfl⟩ := hp0
    refine q_eqs (st' := [.int (nI (k_wr ((k_ex bx b o))))]) rfl ?_
    refine q_eqR (Rs' := [[(h0, .inr (6, [.int (fd 0), .ref aS, .ref aZ, .ref aV, .int (fd 4), .ref aN, .int (fd 6), .ref aU, .int (fd 8), .int (fd 9), .int (fd 10), .ref aD, .int (fd 12), .int (fd 13), .int (fd 14), .long hh]))], [(aS, .inl (cI, 350, .inl (upd f2 3 (-1))))]]) rfl ?_
    exact q_iret C B dX7_swaps_77 rfl rfl (fun t0 ht0 => ⟨rfl, _, hex1, rfl⟩)
  · refine q_aload_n C dX7_swaps_12 13 0 rfl rfl ?_
    refine q_iload_n C dX7_swaps_13 14 1 rfl rfl ?_
    refine q_callV (k := 0) (ci := 6) (n := 1) (rest := []) (Rr := []) C rfl (k_isP_recv hPo1) rfl (c_X7_many_q l hZ hI h0 aS aZ aV aN aU aD fd hh ([(h0, .inr (6, [.int (fd 0), .ref aS, .ref aZ, .ref aV, .int (fd 4), .ref aN, .int (fd 6), .ref aU, .int (fd 8), .int (fd 9), .int (fd 10), .ref aD, .int (fd 12), .int (fd 13), .int (fd 14), .long hh]))]) hPo1 bx at0 ln (upd sc 3 (-1)) ([(aS, .inl (cI, 350, .inl (upd f2 3 (-1))))]) hQf3 b (by omega)) gX7_swaps_X7_many rfl rfl rfl (by decide +kernel) B.1 ⟨Nat.le_of_ble_eq_true rfl, Nat.le_of_ble_eq_true rfl⟩ rfl rfl (Nat.le_of_ble_eq_true rfl) dX7_swaps_14 ⟨Nat.le_of_ble_eq_true rfl, Nat.le_of_ble_eq_true rfl⟩ [0, 1] [] (by decide : ([0, 1] ++ ([] : List Nat)).Perm (List.range 2)) rfl rfl 17 rfl (fun v0 R0 t0 ht0 hp0 => ?_)
    obtain ⟨rfl, rfl⟩ := hp0
    refine q_eqs (st' := [.int (nI ((bx b).length))]) rfl ?_
    refine q_eqR (Rs' := [[(h0, .inr (6, [.int (fd 0), .ref aS, .ref aZ, .ref aV, .int (fd 4), .ref aN, .int (fd 6), .ref aU, .int (fd 8), .int (fd 9), .int (fd 10), .ref aD, .int (fd 12), .int (fd 13), .int (fd 14), .long hh]))], [(aS, .inl (cI, 350, .inl (upd f2 3 (-1))))]]) rfl ?_
    have hh14 : (bx b).length ≤ 20 := (hQf3.2.1 b (by omega)).1
    refine q_if_le C dX7_swaps_17 20 28 rfl (by decide) (q_le0 (by omega)) (fun h17 => ?_) (fun h17 => ?_)
    · refine q_iconst (v := -1) C dX7_swaps_28 29 rfl (by decide) ?_
      refine q_istore_n C dX7_swaps_29 30 rfl [(3, .int (-1)), (0, .ref h0), (1, .int (nI b)), (2, .int (nI o))] (by decide) rfl ?_
      refine q_aload_n C dX7_swaps_30 31 1 rfl rfl ?_
      refine q_iload_n C dX7_swaps_31 32 3 rfl rfl ?_
      refine q_callV (k := 0) (ci := 6) (n := 1) (rest := []) (Rr := []) C rfl (k_isP_recv hPo1) rfl (c_X7_many_q l hZ hI h0 aS aZ aV aN aU aD fd hh ([(h0, .inr (6, [.int (fd 0), .ref aS, .ref aZ, .ref aV, .int (fd 4), .ref aN, .int (fd 6), .ref aU, .int (fd 8), .int (fd 9), .int (fd 10), .ref aD, .int (fd 12), .int (fd 13), .int (fd 14), .long hh]))]) hPo1 bx at0 ln (upd sc 3 (-1)) ([(aS, .inl (cI, 350, .inl (upd f2 3 (-1))))]) hQf3 o (by omega)) gX7_swaps_X7_many rfl rfl rfl (by decide +kernel) B.1 ⟨Nat.le_of_ble_eq_true rfl, Nat.le_of_ble_eq_true rfl⟩ rfl rfl (Nat.le_of_ble_eq_true rfl) dX7_swaps_32 ⟨Nat.le_of_ble_eq_true rfl, Nat.le_of_ble_eq_true rfl⟩ [0, 1] [] (by decide : ([0, 1] ++ ([] : List Nat)).Perm (List.range 2)) rfl rfl 35 rfl (fun v0 R0 t0 ht0 hp0 => ?_)
      obtain ⟨rfl, rfl⟩ := hp0
      refine q_eqs (st' := [.int (nI ((bx o).length))]) rfl ?_
      refine q_eqR (Rs' := [[(h0, .inr (6, [.int (fd 0), .ref aS, .ref aZ, .ref aV, .int (fd 4), .ref aN, .int (fd 6), .ref aU, .int (fd 8), .int (fd 9), .int (fd 10), .ref aD, .int (fd 12), .int (fd 13), .int (fd 14), .long hh]))], [(aS, .inl (cI, 350, .inl (upd f2 3 (-1))))]]) rfl ?_
      have hh32 : (bx o).length ≤ 20 := (hQf3.2.1 o (by omega)).1
      refine q_if_le C dX7_swaps_35 38 46 rfl (by decide) (q_le0 (by omega)) (fun h35 => ?_) (fun h35 => ?_)
      · refine q_iconst (v := -1) C dX7_swaps_46 47 rfl (by decide) ?_
        refine q_istore C dX7_swaps_47 49 rfl [(4, .int (-1)), (3, .int (-1)), (0, .ref h0), (1, .int (nI b)), (2, .int (nI o))] (by decide) rfl ?_
        refine q_iload_n C dX7_swaps_49 50 1 rfl rfl ?_
        refine q_iconst (v := -1) C dX7_swaps_50 51 rfl (by decide) ?_
        refine q_icmp_eq (P := True) C dX7_swaps_51 54 60 rfl (by decide) ⟨fun _ => trivial, fun _ => rfl⟩ (fun h51 => ?_) (fun h51 => False.elim (by first | omega | simp_all))
        refine q_iload C dX7_swaps_60 62 0 rfl rfl ?_
        refine q_iconst (v := -1) C dX7_swaps_62 63 rfl (by decide) ?_
        refine q_icmp_eq (P := True) C dX7_swaps_63 66 73 rfl (by decide) ⟨fun _ => trivial, fun _ => rfl⟩ (fun h63 => ?_) (fun h63 => False.elim (by first | omega | simp_all))
        have hex2 : k_isQ cI aS ((k_ex bx b o)) at0 ln (upd sc 3 (-1)) [(aS, .inl (cI, 350, .inl (upd f2 3 (-1))))] := by rw [k_ex_00 (by omega) (by omega) (by omega)]; exact hQf3
        refine q_aload_n C dX7_swaps_73 74 2 rfl rfl ?_
        refine q_callV (k := 0) (ci := 6) (n := 0) (rest := []) (Rr := []) C rfl (k_isP_recv hPo1) rfl (c_X7_wrong l hZ hI h0 aS aZ aV aN aU aD fd hh ([(h0, .inr (6, [.int (fd 0), .ref aS, .ref aZ, .ref aV, .int (fd 4), .ref aN, .int (fd 6), .ref aU, .int (fd 8), .int (fd 9), .int (fd 10), .ref aD, .int (fd 12), .int (fd 13), .int (fd 14), .long hh]))]) hPo1 ((k_ex bx b o)) at0 ln (upd sc 3 (-1)) ([(aS, .inl (cI, 350, .inl (upd f2 3 (-1))))]) hex2) gX7_swaps_X7_wrong rfl rfl rfl (by decide +kernel) B.1 ⟨Nat.le_of_ble_eq_true rfl, Nat.le_of_ble_eq_true rfl⟩ rfl rfl (Nat.le_of_ble_eq_true rfl) dX7_swaps_74 ⟨Nat.le_of_ble_eq_true rfl, Nat.le_of_ble_eq_true rfl⟩ [0, 1] [] (by decide : ([0, 1] ++ ([] : List Nat)).Perm (List.range 2)) rfl rfl 77 rfl (fun v0 R0 t0 ht0 hp0 => ?_)
        obtain ⟨rfl, rfl⟩ := hp0
        refine q_eqs (st' := [.int (nI (k_wr ((k_ex bx b o))))]) rfl ?_
        refine q_eqR (Rs' := [[(h0, .inr (6, [.int (fd 0), .ref aS, .ref aZ, .ref aV, .int (fd 4), .ref aN, .int (fd 6), .ref aU, .int (fd 8), .int (fd 9), .int (fd 10), .ref aD, .int (fd 12), .int (fd 13), .int (fd 14), .long hh]))], [(aS, .inl (cI, 350, .inl (upd f2 3 (-1))))]]) rfl ?_
        exact q_iret C B dX7_swaps_77 rfl rfl (fun t0 ht0 => ⟨rfl, _, hex2, rfl⟩)
      · refine q_aload_n C dX7_swaps_38 39 1 rfl rfl ?_
        refine q_iload_n C dX7_swaps_39 40 3 rfl rfl ?_
        refine q_callV (k := 0) (ci := 6) (n := 1) (rest := []) (Rr := []) C rfl (k_isP_recv hPo1) rfl (c_X7_takesUpmost l hZ hI h0 aS aZ aV aN aU aD fd hh ([(h0, .inr (6, [.int (fd 0), .ref aS, .ref aZ, .ref aV, .int (fd 4), .ref aN, .int (fd 6), .ref aU, .int (fd 8), .int (fd 9), .int (fd 10), .ref aD, .int (fd 12), .int (fd 13), .int (fd 14), .long hh]))]) hPo1 bx at0 ln (upd sc 3 (-1)) ([(aS, .inl (cI, 350, .inl (upd f2 3 (-1))))]) hQf3 o (by omega) (by omega)) gX7_swaps_X7_takesUpmost rfl rfl rfl (by decide +kernel) B.1 ⟨Nat.le_of_ble_eq_true rfl, Nat.le_of_ble_eq_true rfl⟩ rfl rfl (Nat.le_of_ble_eq_true rfl) dX7_swaps_40 ⟨Nat.le_of_ble_eq_true rfl, Nat.le_of_ble_eq_true rfl⟩ [0, 1] [] (by decide : ([0, 1] ++ ([] : List Nat)).Perm (List.range 2)) rfl rfl 43 rfl (fun v0 R0 t0 ht0 hp0 => ?_)
        obtain ⟨rfl, wQ_40, hwQ_40, rfl⟩ := hp0
        refine q_eqs (st' := [.int (nI (k_x bx o))]) rfl ?_
        refine q_eqR (Rs' := [[(h0, .inr (6, [.int (fd 0), .ref aS, .ref aZ, .ref aV, .int (fd 4), .ref aN, .int (fd 6), .ref aU, .int (fd 8), .int (fd 9), .int (fd 10), .ref aD, .int (fd 12), .int (fd 13), .int (fd 14), .long hh]))], wQ_40]) rfl ?_
        have ht40 : k_x bx o < 12 := k_x_lt hQf3.2.1 (by omega) (by omega)
        refine q_goto C dX7_swaps_43 47 (by decide) ?_
        refine q_istore C dX7_swaps_47 49 rfl [(4, .int (nI (k_x bx o))), (3, .int (-1)), (0, .ref h0), (1, .int (nI b)), (2, .int (nI o))] (by decide) rfl ?_
        refine q_iload_n C dX7_swaps_49 50 1 rfl rfl ?_
        refine q_iconst (v := -1) C dX7_swaps_50 51 rfl (by decide) ?_
        refine q_icmp_eq (P := True) C dX7_swaps_51 54 60 rfl (by decide) ⟨fun _ => trivial, fun _ => rfl⟩ (fun h51 => ?_) (fun h51 => False.elim (by first | omega | simp_all))
        refine q_iload C dX7_swaps_60 62 0 rfl rfl ?_
        refine q_iconst (v := -1) C dX7_swaps_62 63 rfl (by decide) ?_
        refine q_icmp_eq (P := False) C dX7_swaps_63 66 73 rfl (by decide) (q_m1 (by omega)) (fun h63 => False.elim (by first | omega | simp_all)) (fun h63 => ?_)
        refine q_aload_n C dX7_swaps_66 67 2 rfl rfl ?_
        refine q_iload_n C dX7_swaps_67 68 3 rfl rfl ?_
        refine q_iload C dX7_swaps_68 70 0 rfl rfl ?_
        refine q_callV (k := 0) (ci := 6) (n := 2) (rest := []) (Rr := []) C rfl (k_isP_recv hPo1) rfl (c_X7_puts l hZ hI h0 aS aZ aV aN aU aD fd hh ([(h0, .inr (6, [.int (fd 0), .ref aS, .ref aZ, .ref aV, .int (fd 4), .ref aN, .int (fd 6), .ref aU, .int (fd 8), .int (fd 9), .int (fd 10), .ref aD, .int (fd 12), .int (fd 13), .int (fd 14), .long hh]))]) hPo1 (k_drop bx o) at0 ln (upd sc 3 (-1)) wQ_40 hwQ_40 b (k_x bx o) (by omega) (by first | (rw [k_put_n (by omega), k_drop_n (by omega), k_drop_s, List.length_dropLast]; omega) | (rw [k_drop_s, List.length_dropLast]; omega) | (rw [k_drop_n (by omega), k_drop_s, List.length_dropLast]; omega) | (rw [k_drop_n (by omega)]; omega) | omega) (by first | omega | exact k_x_lt (k_Bok_drop hok) (by omega) (by omega))) gX7_swaps_X7_puts rfl rfl rfl (by decide +kernel) B.1 ⟨Nat.le_of_ble_eq_true rfl, Nat.le_of_ble_eq_true rfl⟩ rfl rfl (Nat.le_of_ble_eq_true rfl) dX7_swaps_70 ⟨Nat.le_of_ble_eq_true rfl, Nat.le_of_ble_eq_true rfl⟩ [0, 1] [] (by decide : ([0, 1] ++ ([] : List Nat)).Perm (List.range 2)) rfl rfl 73 rfl (fun v0 R0 t0 ht0 hp0 => ?_)
        obtain ⟨rfl, wQ_70, hwQ_70, rfl⟩ := hp0
        refine q_eqs (st' := []) rfl ?_
        refine q_eqR (Rs' := [[(h0, .inr (6, [.int (fd 0), .ref aS, .ref aZ, .ref aV, .int (fd 4), .ref aN, .int (fd 6), .ref aU, .int (fd 8), .int (fd 9), .int (fd 10), .ref aD, .int (fd 12), .int (fd 13), .int (fd 14), .long hh]))], wQ_70]) rfl ?_
        have hex3 : k_isQ cI aS ((k_ex bx b o)) at0 ln (upd sc 3 (-1)) wQ_70 := by rw [k_ex_01 (by omega) (by omega) (by omega)]; exact hwQ_70
        refine q_aload_n C dX7_swaps_73 74 2 rfl rfl ?_
        refine q_callV (k := 0) (ci := 6) (n := 0) (rest := []) (Rr := []) C rfl (k_isP_recv hPo1) rfl (c_X7_wrong l hZ hI h0 aS aZ aV aN aU aD fd hh ([(h0, .inr (6, [.int (fd 0), .ref aS, .ref aZ, .ref aV, .int (fd 4), .ref aN, .int (fd 6), .ref aU, .int (fd 8), .int (fd 9), .int (fd 10), .ref aD, .int (fd 12), .int (fd 13), .int (fd 14), .long hh]))]) hPo1 ((k_ex bx b o)) at0 ln (upd sc 3 (-1)) wQ_70 hex3) gX7_swaps_X7_wrong rfl rfl rfl (by decide +kernel) B.1 ⟨Nat.le_of_ble_eq_true rfl, Nat.le_of_ble_eq_true rfl⟩ rfl rfl (Nat.le_of_ble_eq_true rfl) dX7_swaps_74 ⟨Nat.le_of_ble_eq_true rfl, Nat.le_of_ble_eq_true rfl⟩ [0, 1] [] (by decide : ([0, 1] ++ ([] : List Nat)).Perm (List.range 2)) rfl rfl 77 rfl (fun v0 R0 t0 ht0 hp0 => ?_)
        obtain ⟨rfl, rfl⟩ := hp0
        refine q_eqs (st' := [.int (nI (k_wr ((k_ex bx b o))))]) rfl ?_
        refine q_eqR (Rs' := [[(h0, .inr (6, [.int (fd 0), .ref aS, .ref aZ, .ref aV, .int (fd 4), .ref aN, .int (fd 6), .ref aU, .int (fd 8), .int (fd 9), .int (fd 10), .ref aD, .int (fd 12), .int (fd 13), .int (fd 14), .long hh]))], wQ_70]) rfl ?_
        exact q_iret C B dX7_swaps_77 rfl rfl (fun t0 ht0 => ⟨rfl, _, hex3, rfl⟩)
    · refine q_aload_n C dX7_swaps_20 21 0 rfl rfl ?_
      refine q_iload_n C dX7_swaps_21 22 1 rfl rfl ?_
      refine q_callV (k := 0) (ci := 6) (n := 1) (rest := []) (Rr := []) C rfl (k_isP_recv hPo1) rfl (c_X7_takesUpmost l hZ hI h0 aS aZ aV aN aU aD fd hh ([(h0, .inr (6, [.int (fd 0), .ref aS, .ref aZ, .ref aV, .int (fd 4), .ref aN, .int (fd 6), .ref aU, .int (fd 8), .int (fd 9), .int (fd 10), .ref aD, .int (fd 12), .int (fd 13), .int (fd 14), .long hh]))]) hPo1 bx at0 ln (upd sc 3 (-1)) ([(aS, .inl (cI, 350, .inl (upd f2 3 (-1))))]) hQf3 b (by omega) (by omega)) gX7_swaps_X7_takesUpmost rfl rfl rfl (by decide +kernel) B.1 ⟨Nat.le_of_ble_eq_true rfl, Nat.le_of_ble_eq_true rfl⟩ rfl rfl (Nat.le_of_ble_eq_true rfl) dX7_swaps_22 ⟨Nat.le_of_ble_eq_true rfl, Nat.le_of_ble_eq_true rfl⟩ [0, 1] [] (by decide : ([0, 1] ++ ([] : List Nat)).Perm (List.range 2)) rfl rfl 25 rfl (fun v0 R0 t0 ht0 hp0 => ?_)
      obtain ⟨rfl, wQ_22, hwQ_22, rfl⟩ := hp0
      refine q_eqs (st' := [.int (nI (k_x bx b))]) rfl ?_
      refine q_eqR (Rs' := [[(h0, .inr (6, [.int (fd 0), .ref aS, .ref aZ, .ref aV, .int (fd 4), .ref aN, .int (fd 6), .ref aU, .int (fd 8), .int (fd 9), .int (fd 10), .ref aD, .int (fd 12), .int (fd 13), .int (fd 14), .long hh]))], wQ_22]) rfl ?_
      have ht22 : k_x bx b < 12 := k_x_lt hQf3.2.1 (by omega) (by omega)
      refine q_goto C dX7_swaps_25 29 (by decide) ?_
      have hdo : ((k_drop bx b) o).length = (bx o).length := by rw [k_drop_n (by omega)]
      refine q_istore_n C dX7_swaps_29 30 rfl [(3, .int (nI (k_x bx b))), (0, .ref h0), (1, .int (nI b)), (2, .int (nI o))] (by decide) rfl ?_
      refine q_aload_n C dX7_swaps_30 31 1 rfl rfl ?_
      refine q_iload_n C dX7_swaps_31 32 3 rfl rfl ?_
      refine q_callV (k := 0) (ci := 6) (n := 1) (rest := []) (Rr := []) C rfl (k_isP_recv hPo1) rfl (c_X7_many_q l hZ hI h0 aS aZ aV aN aU aD fd hh ([(h0, .inr (6, [.int (fd 0), .ref aS, .ref aZ, .ref aV, .int (fd 4), .ref aN, .int (fd 6), .ref aU, .int (fd 8), .int (fd 9), .int (fd 10), .ref aD, .int (fd 12), .int (fd 13), .int (fd 14), .long hh]))]) hPo1 (k_drop bx b) at0 ln (upd sc 3 (-1)) wQ_22 hwQ_22 o (by omega)) gX7_swaps_X7_many rfl rfl rfl (by decide +kernel) B.1 ⟨Nat.le_of_ble_eq_true rfl, Nat.le_of_ble_eq_true rfl⟩ rfl rfl (Nat.le_of_ble_eq_true rfl) dX7_swaps_32 ⟨Nat.le_of_ble_eq_true rfl, Nat.le_of_ble_eq_true rfl⟩ [0, 1] [] (by decide : ([0, 1] ++ ([] : List Nat)).Perm (List.range 2)) rfl rfl 35 rfl (fun v0 R0 t0 ht0 hp0 => ?_)
      obtain ⟨rfl, rfl⟩ := hp0
      refine q_eqs (st' := [.int (nI (((k_drop bx b) o).length))]) rfl ?_
      refine q_eqR (Rs' := [[(h0, .inr (6, [.int (fd 0), .ref aS, .ref aZ, .ref aV, .int (fd 4), .ref aN, .int (fd 6), .ref aU, .int (fd 8), .int (fd 9), .int (fd 10), .ref aD, .int (fd 12), .int (fd 13), .int (fd 14), .long hh]))], wQ_22]) rfl ?_
      have hh32 : ((k_drop bx b) o).length ≤ 20 := (hwQ_22.2.1 o (by omega)).1
      refine q_if_le C dX7_swaps_35 38 46 rfl (by decide) (q_le0 (by omega)) (fun h35 => ?_) (fun h35 => ?_)
      · refine q_iconst (v := -1) C dX7_swaps_46 47 rfl (by decide) ?_
        refine q_istore C dX7_swaps_47 49 rfl [(4, .int (-1)), (3, .int (nI (k_x bx b))), (0, .ref h0), (1, .int (nI b)), (2, .int (nI o))] (by decide) rfl ?_
        refine q_iload_n C dX7_swaps_49 50 1 rfl rfl ?_
        refine q_iconst (v := -1) C dX7_swaps_50 51 rfl (by decide) ?_
        refine q_icmp_eq (P := False) C dX7_swaps_51 54 60 rfl (by decide) (q_m1 (by omega)) (fun h51 => False.elim (by first | omega | simp_all)) (fun h51 => ?_)
        refine q_aload_n C dX7_swaps_54 55 2 rfl rfl ?_
        refine q_iload_n C dX7_swaps_55 56 4 rfl rfl ?_
        refine q_iload_n C dX7_swaps_56 57 1 rfl rfl ?_
        refine q_callV (k := 0) (ci := 6) (n := 2) (rest := []) (Rr := []) C rfl (k_isP_recv hPo1) rfl (c_X7_puts l hZ hI h0 aS aZ aV aN aU aD fd hh ([(h0, .inr (6, [.int (fd 0), .ref aS, .ref aZ, .ref aV, .int (fd 4), .ref aN, .int (fd 6), .ref aU, .int (fd 8), .int (fd 9), .int (fd 10), .ref aD, .int (fd 12), .int (fd 13), .int (fd 14), .long hh]))]) hPo1 (k_drop bx b) at0 ln (upd sc 3 (-1)) wQ_22 hwQ_22 o (k_x bx b) (by omega) (by first | (rw [k_drop_s, k_drop_n (by omega), List.length_dropLast]; omega) | (rw [k_drop_n (by omega)]; omega) | omega) (by omega)) gX7_swaps_X7_puts rfl rfl rfl (by decide +kernel) B.1 ⟨Nat.le_of_ble_eq_true rfl, Nat.le_of_ble_eq_true rfl⟩ rfl rfl (Nat.le_of_ble_eq_true rfl) dX7_swaps_57 ⟨Nat.le_of_ble_eq_true rfl, Nat.le_of_ble_eq_true rfl⟩ [0, 1] [] (by decide : ([0, 1] ++ ([] : List Nat)).Perm (List.range 2)) rfl rfl 60 rfl (fun v0 R0 t0 ht0 hp0 => ?_)
        obtain ⟨rfl, wQ_57, hwQ_57, rfl⟩ := hp0
        refine q_eqs (st' := []) rfl ?_
        refine q_eqR (Rs' := [[(h0, .inr (6, [.int (fd 0), .ref aS, .ref aZ, .ref aV, .int (fd 4), .ref aN, .int (fd 6), .ref aU, .int (fd 8), .int (fd 9), .int (fd 10), .ref aD, .int (fd 12), .int (fd 13), .int (fd 14), .long hh]))], wQ_57]) rfl ?_
        refine q_iload C dX7_swaps_60 62 0 rfl rfl ?_
        refine q_iconst (v := -1) C dX7_swaps_62 63 rfl (by decide) ?_
        refine q_icmp_eq (P := True) C dX7_swaps_63 66 73 rfl (by decide) ⟨fun _ => trivial, fun _ => rfl⟩ (fun h63 => ?_) (fun h63 => False.elim (by first | omega | simp_all))
        have hex4 : k_isQ cI aS ((k_ex bx b o)) at0 ln (upd sc 3 (-1)) wQ_57 := by rw [k_ex_10 (by omega) (by omega) (by omega)]; exact hwQ_57
        refine q_aload_n C dX7_swaps_73 74 2 rfl rfl ?_
        refine q_callV (k := 0) (ci := 6) (n := 0) (rest := []) (Rr := []) C rfl (k_isP_recv hPo1) rfl (c_X7_wrong l hZ hI h0 aS aZ aV aN aU aD fd hh ([(h0, .inr (6, [.int (fd 0), .ref aS, .ref aZ, .ref aV, .int (fd 4), .ref aN, .int (fd 6), .ref aU, .int (fd 8), .int (fd 9), .int (fd 10), .ref aD, .int (fd 12), .int (fd 13), .int (fd 14), .long hh]))]) hPo1 ((k_ex bx b o)) at0 ln (upd sc 3 (-1)) wQ_57 hex4) gX7_swaps_X7_wrong rfl rfl rfl (by decide +kernel) B.1 ⟨Nat.le_of_ble_eq_true rfl, Nat.le_of_ble_eq_true rfl⟩ rfl rfl (Nat.le_of_ble_eq_true rfl) dX7_swaps_74 ⟨Nat.le_of_ble_eq_true rfl, Nat.le_of_ble_eq_true rfl⟩ [0, 1] [] (by decide : ([0, 1] ++ ([] : List Nat)).Perm (List.range 2)) rfl rfl 77 rfl (fun v0 R0 t0 ht0 hp0 => ?_)
        obtain ⟨rfl, rfl⟩ := hp0
        refine q_eqs (st' := [.int (nI (k_wr ((k_ex bx b o))))]) rfl ?_
        refine q_eqR (Rs' := [[(h0, .inr (6, [.int (fd 0), .ref aS, .ref aZ, .ref aV, .int (fd 4), .ref aN, .int (fd 6), .ref aU, .int (fd 8), .int (fd 9), .int (fd 10), .ref aD, .int (fd 12), .int (fd 13), .int (fd 14), .long hh]))], wQ_57]) rfl ?_
        exact q_iret C B dX7_swaps_77 rfl rfl (fun t0 ht0 => ⟨rfl, _, hex4, rfl⟩)
      · refine q_aload_n C dX7_swaps_38 39 1 rfl rfl ?_
        refine q_iload_n C dX7_swaps_39 40 3 rfl rfl ?_
        refine q_callV (k := 0) (ci := 6) (n := 1) (rest := []) (Rr := []) C rfl (k_isP_recv hPo1) rfl (c_X7_takesUpmost l hZ hI h0 aS aZ aV aN aU aD fd hh ([(h0, .inr (6, [.int (fd 0), .ref aS, .ref aZ, .ref aV, .int (fd 4), .ref aN, .int (fd 6), .ref aU, .int (fd 8), .int (fd 9), .int (fd 10), .ref aD, .int (fd 12), .int (fd 13), .int (fd 14), .long hh]))]) hPo1 (k_drop bx b) at0 ln (upd sc 3 (-1)) wQ_22 hwQ_22 o (by omega) (by omega)) gX7_swaps_X7_takesUpmost rfl rfl rfl (by decide +kernel) B.1 ⟨Nat.le_of_ble_eq_true rfl, Nat.le_of_ble_eq_true rfl⟩ rfl rfl (Nat.le_of_ble_eq_true rfl) dX7_swaps_40 ⟨Nat.le_of_ble_eq_true rfl, Nat.le_of_ble_eq_true rfl⟩ [0, 1] [] (by decide : ([0, 1] ++ ([] : List Nat)).Perm (List.range 2)) rfl rfl 43 rfl (fun v0 R0 t0 ht0 hp0 => ?_)
        obtain ⟨rfl, wQ_40, hwQ_40, rfl⟩ := hp0
        refine q_eqs (st' := [.int (nI (k_x (k_drop bx b) o))]) rfl ?_
        refine q_eqR (Rs' := [[(h0, .inr (6, [.int (fd 0), .ref aS, .ref aZ, .ref aV, .int (fd 4), .ref aN, .int (fd 6), .ref aU, .int (fd 8), .int (fd 9), .int (fd 10), .ref aD, .int (fd 12), .int (fd 13), .int (fd 14), .long hh]))], wQ_40]) rfl ?_
        have ht40 : k_x (k_drop bx b) o < 12 := k_x_lt hwQ_22.2.1 (by omega) (by omega)
        refine q_goto C dX7_swaps_43 47 (by decide) ?_
        refine q_istore C dX7_swaps_47 49 rfl [(4, .int (nI (k_x (k_drop bx b) o))), (3, .int (nI (k_x bx b))), (0, .ref h0), (1, .int (nI b)), (2, .int (nI o))] (by decide) rfl ?_
        refine q_iload_n C dX7_swaps_49 50 1 rfl rfl ?_
        refine q_iconst (v := -1) C dX7_swaps_50 51 rfl (by decide) ?_
        refine q_icmp_eq (P := False) C dX7_swaps_51 54 60 rfl (by decide) (q_m1 (by omega)) (fun h51 => False.elim (by first | omega | simp_all)) (fun h51 => ?_)
        refine q_aload_n C dX7_swaps_54 55 2 rfl rfl ?_
        refine q_iload_n C dX7_swaps_55 56 4 rfl rfl ?_
        refine q_iload_n C dX7_swaps_56 57 1 rfl rfl ?_
        refine q_callV (k := 0) (ci := 6) (n := 2) (rest := []) (Rr := []) C rfl (k_isP_recv hPo1) rfl (c_X7_puts l hZ hI h0 aS aZ aV aN aU aD fd hh ([(h0, .inr (6, [.int (fd 0), .ref aS, .ref aZ, .ref aV, .int (fd 4), .ref aN, .int (fd 6), .ref aU, .int (fd 8), .int (fd 9), .int (fd 10), .ref aD, .int (fd 12), .int (fd 13), .int (fd 14), .long hh]))]) hPo1 (k_drop (k_drop bx b) o) at0 ln (upd sc 3 (-1)) wQ_40 hwQ_40 o (k_x bx b) (by omega) (by first | (rw [k_drop_s, k_drop_n (by omega), List.length_dropLast]; omega) | (rw [k_drop_n (by omega)]; omega) | omega) (by omega)) gX7_swaps_X7_puts rfl rfl rfl (by decide +kernel) B.1 ⟨Nat.le_of_ble_eq_true rfl, Nat.le_of_ble_eq_true rfl⟩ rfl rfl (Nat.le_of_ble_eq_true rfl) dX7_swaps_57 ⟨Nat.le_of_ble_eq_true rfl, Nat.le_of_ble_eq_true rfl⟩ [0, 1] [] (by decide : ([0, 1] ++ ([] : List Nat)).Perm (List.range 2)) rfl rfl 60 rfl (fun v0 R0 t0 ht0 hp0 => ?_)
        obtain ⟨rfl, wQ_57, hwQ_57, rfl⟩ := hp0
        refine q_eqs (st' := []) rfl ?_
        refine q_eqR (Rs' := [[(h0, .inr (6, [.int (fd 0), .ref aS, .ref aZ, .ref aV, .int (fd 4), .ref aN, .int (fd 6), .ref aU, .int (fd 8), .int (fd 9), .int (fd 10), .ref aD, .int (fd 12), .int (fd 13), .int (fd 14), .long hh]))], wQ_57]) rfl ?_
        refine q_iload C dX7_swaps_60 62 0 rfl rfl ?_
        refine q_iconst (v := -1) C dX7_swaps_62 63 rfl (by decide) ?_
        refine q_icmp_eq (P := False) C dX7_swaps_63 66 73 rfl (by decide) (q_m1 (by omega)) (fun h63 => False.elim (by first | omega | simp_all)) (fun h63 => ?_)
        refine q_aload_n C dX7_swaps_66 67 2 rfl rfl ?_
        refine q_iload_n C dX7_swaps_67 68 3 rfl rfl ?_
        refine q_iload C dX7_swaps_68 70 0 rfl rfl ?_
        refine q_callV (k := 0) (ci := 6) (n := 2) (rest := []) (Rr := []) C rfl (k_isP_recv hPo1) rfl (c_X7_puts l hZ hI h0 aS aZ aV aN aU aD fd hh ([(h0, .inr (6, [.int (fd 0), .ref aS, .ref aZ, .ref aV, .int (fd 4), .ref aN, .int (fd 6), .ref aU, .int (fd 8), .int (fd 9), .int (fd 10), .ref aD, .int (fd 12), .int (fd 13), .int (fd 14), .long hh]))]) hPo1 (k_put (k_drop (k_drop bx b) o) o (k_x bx b)) at0 ln (upd sc 3 (-1)) wQ_57 hwQ_57 b (k_x (k_drop bx b) o) (by omega) (by first | (rw [k_put_n (by omega), k_drop_n (by omega), k_drop_s, List.length_dropLast]; omega) | (rw [k_drop_s, List.length_dropLast]; omega) | (rw [k_drop_n (by omega), k_drop_s, List.length_dropLast]; omega) | (rw [k_drop_n (by omega)]; omega) | omega) (by first | omega | exact k_x_lt (k_Bok_drop hok) (by omega) (by omega))) gX7_swaps_X7_puts rfl rfl rfl (by decide +kernel) B.1 ⟨Nat.le_of_ble_eq_true rfl, Nat.le_of_ble_eq_true rfl⟩ rfl rfl (Nat.le_of_ble_eq_true rfl) dX7_swaps_70 ⟨Nat.le_of_ble_eq_true rfl, Nat.le_of_ble_eq_true rfl⟩ [0, 1] [] (by decide : ([0, 1] ++ ([] : List Nat)).Perm (List.range 2)) rfl rfl 73 rfl (fun v0 R0 t0 ht0 hp0 => ?_)
        obtain ⟨rfl, wQ_70, hwQ_70, rfl⟩ := hp0
        refine q_eqs (st' := []) rfl ?_
        refine q_eqR (Rs' := [[(h0, .inr (6, [.int (fd 0), .ref aS, .ref aZ, .ref aV, .int (fd 4), .ref aN, .int (fd 6), .ref aU, .int (fd 8), .int (fd 9), .int (fd 10), .ref aD, .int (fd 12), .int (fd 13), .int (fd 14), .long hh]))], wQ_70]) rfl ?_
        have hex5 : k_isQ cI aS ((k_ex bx b o)) at0 ln (upd sc 3 (-1)) wQ_70 := by rw [k_ex_11 (by omega) (by omega) (by omega)]; exact hwQ_70
        refine q_aload_n C dX7_swaps_73 74 2 rfl rfl ?_
        refine q_callV (k := 0) (ci := 6) (n := 0) (rest := []) (Rr := []) C rfl (k_isP_recv hPo1) rfl (c_X7_wrong l hZ hI h0 aS aZ aV aN aU aD fd hh ([(h0, .inr (6, [.int (fd 0), .ref aS, .ref aZ, .ref aV, .int (fd 4), .ref aN, .int (fd 6), .ref aU, .int (fd 8), .int (fd 9), .int (fd 10), .ref aD, .int (fd 12), .int (fd 13), .int (fd 14), .long hh]))]) hPo1 ((k_ex bx b o)) at0 ln (upd sc 3 (-1)) wQ_70 hex5) gX7_swaps_X7_wrong rfl rfl rfl (by decide +kernel) B.1 ⟨Nat.le_of_ble_eq_true rfl, Nat.le_of_ble_eq_true rfl⟩ rfl rfl (Nat.le_of_ble_eq_true rfl) dX7_swaps_74 ⟨Nat.le_of_ble_eq_true rfl, Nat.le_of_ble_eq_true rfl⟩ [0, 1] [] (by decide : ([0, 1] ++ ([] : List Nat)).Perm (List.range 2)) rfl rfl 77 rfl (fun v0 R0 t0 ht0 hp0 => ?_)
        obtain ⟨rfl, rfl⟩ := hp0
        refine q_eqs (st' := [.int (nI (k_wr ((k_ex bx b o))))]) rfl ?_
        refine q_eqR (Rs' := [[(h0, .inr (6, [.int (fd 0), .ref aS, .ref aZ, .ref aV, .int (fd 4), .ref aN, .int (fd 6), .ref aU, .int (fd 8), .int (fd 9), .int (fd 10), .ref aD, .int (fd 12), .int (fd 13), .int (fd 14), .long hh]))], wQ_70]) rfl ?_
        exact q_iret C B dX7_swaps_77 rfl rfl (fun t0 ht0 => ⟨rfl, _, hex5, rfl⟩)
