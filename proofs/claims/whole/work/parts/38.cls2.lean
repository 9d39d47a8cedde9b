set_option maxHeartbeats 400000 in
set_option maxRecDepth 100000 in
theorem c_X5_add (l : Launch) {D : va_G} {tys : List (ClassId × FieldType)} {Z : (Nat → Prop) → State → Heap → Prop} (hZ : q_St Z) {cI : ClassId} (hI : tys[0]? = some (cI, .int)) (h0 : Nat) (tx : List Nat) (w : va_W) (h : k_isT cI h0 tx w) (x : Nat) (hx1 : 33 ≤ x) (hx2 : x ≤ 126) (hf : tx.length < 60) : q_Ct l D tys Z yX5_add wsX5_add ({ frames := 1, cells := 0, slots := 0, locals := 42 } : Room) 0 0 [.ref h0, .int (nI x)] [w] (fun v0 R0 _ => v0 = none ∧ ∃ w', k_isT cI h0 (tx ++ [x]) w' ∧ R0 = [w']) := by
  have hcI := hI
  refine q_ct (cc := cX5_add) (maxL := 2) (ret := none) (own := RX5) (by decide) rfl hZ (Nat.le_of_ble_eq_true rfl) rfl ?_
  intro p9 e9 R s9 m9 args below meth c9 A Q C B
  have hts := C.2.2.2.2.1
  have hinX5 : ∀ w ∈ u_ws RX5 TX5 2, w ∈ wsX5_add := by decide +kernel
  have f15 := hts (.fieldLink RX5 15 "SortCases$Text" "length" "I") (by decide +kernel)
  have f9 := hts (.fieldLink RX5 9 "SortCases$Text" "codes" "[I") (by decide +kernel)
  refine q_eqL (L' := [(0, .ref h0), (1, .int (nI x))]) rfl ?_
  refine q_aload_n C dX5_add_0 1 0 rfl rfl ?_
  obtain ⟨htkx1, hcx1, ftx1, htrx1, rfl⟩ := h
  have htlx1 := htkx1.1
  have hTox1 : k_isT cI h0 tx [(h0, .inr (4, [.ref hcx1, .int (nI tx.length)])), (hcx1, .inl (cI, 60, .inl ftx1))] := ⟨htkx1, hcx1, ftx1, htrx1, rfl⟩
  refine q_get (k := 0) (j := 0) (f := 1) C hinX5 f15 (fun _ h => h) (by decide) rfl dX5_add_1 4 rfl rfl rfl rfl ?_
  refine q_if_lt C dX5_add_4 7 39 rfl (by decide) (q_lt0 (by omega)) (fun h4 => False.elim (by first | omega | simp_all)) (fun h4 => ?_)
  refine q_aload_n C dX5_add_7 8 0 rfl rfl ?_
  refine q_get (k := 0) (j := 0) (f := 1) C hinX5 f15 (fun _ h => h) (by decide) rfl dX5_add_8 11 rfl rfl rfl rfl ?_
  refine q_aload_n C dX5_add_11 12 0 rfl rfl ?_
  refine q_get (k := 0) (j := 0) (f := 0) C hinX5 f9 (fun _ h => h) (by decide) rfl dX5_add_12 15 rfl rfl rfl rfl ?_
  refine q_alen (k := 0) (j := 1) (v := nI 60) C dX5_add_15 16 rfl rfl rfl hcI rfl ?_
  refine q_icmp_ge C dX5_add_16 19 39 rfl (by decide) (nI_leI (by omega) (by omega)) (fun h16 => False.elim (by first | omega | simp_all)) (fun h16 => ?_)
  refine q_aload_n C dX5_add_19 20 0 rfl rfl ?_
  refine q_get (k := 0) (j := 0) (f := 0) C hinX5 f9 (fun _ h => h) (by decide) rfl dX5_add_20 23 rfl rfl rfl rfl ?_
  refine q_aload_n C dX5_add_23 24 0 rfl rfl ?_
  refine q_get (k := 0) (j := 0) (f := 1) C hinX5 f15 (fun _ h => h) (by decide) rfl dX5_add_24 27 rfl rfl rfl rfl ?_
  refine q_iload_n C dX5_add_27 28 1 rfl rfl ?_
  refine q_iast (k := 0) (j := 1) C dX5_add_28 29 rfl rfl rfl hcI tx.length rfl (by omega) (by decide) [[(h0, .inr (4, [.ref hcx1, .int (nI tx.length)])), (hcx1, .inl (cI, 60, .inl (upd ftx1 tx.length (nI x))))]] rfl ?_
  refine q_aload_n C dX5_add_29 30 0 rfl rfl ?_
  refine q_dup C dX5_add_30 31 rfl rfl ?_
  refine q_get (k := 0) (j := 0) (f := 1) C hinX5 f15 (fun _ h => h) (by decide) rfl dX5_add_31 34 rfl rfl rfl rfl ?_
  refine q_iconst (v := nI 1) C dX5_add_34 35 rfl (by decide) ?_
  refine q_iadd (v := nI (tx.length + 1)) C dX5_add_35 36 rfl (q_nadd (by omega)) ?_
  refine q_put (k := 0) (j := 0) (f := 1) C hinX5 tyX5 tyX5_ok nmX5 f15 (fun _ h => h) (by decide) rfl rfl (tyX5_ok 1 (by decide)) rfl rfl dX5_add_36 39 rfl rfl rfl (Nat.le_of_ble_eq_true rfl) [[(h0, .inr (4, [.ref hcx1, .int (nI (tx.length + 1))])), (hcx1, .inl (cI, 60, .inl (upd ftx1 tx.length (nI x))))]] rfl ?_
  exact q_vret C B dX5_add_39 rfl rfl (fun t0 ht0 => ⟨rfl, _, ⟨k_Tok_app htkx1 hf ⟨hx1, hx2⟩, _, _, k_TR_app htrx1, by rw [List.length_append, List.length_singleton]⟩, rfl⟩)

set_option maxHeartbeats 400000 in
set_option maxRecDepth 100000 in
theorem c_X5_clear (l : Launch) {D : va_G} {tys : List (ClassId × FieldType)} {Z : (Nat → Prop) → State → Heap → Prop} (hZ : q_St Z) {cI : ClassId} (hI : tys[0]? = some (cI, .int)) (h0 : Nat) (tx : List Nat) (w : va_W) (h : k_isT cI h0 tx w) : q_Ct l D tys Z yX5_clear wsX5_clear ({ frames := 1, cells := 0, slots := 0, locals := 42 } : Room) 0 0 [.ref h0] [w] (fun v0 R0 _ => v0 = none ∧ ∃ w', k_isT cI h0 (([] : List Nat)) w' ∧ R0 = [w']) := by
  have hcI := hI
  refine q_ct (cc := cX5_clear) (maxL := 1) (ret := none) (own := RX5) (by decide) rfl hZ (Nat.le_of_ble_eq_true rfl) rfl ?_
  intro p9 e9 R s9 m9 args below meth c9 A Q C B
  have hts := C.2.2.2.2.1
  have hinX5 : ∀ w ∈ u_ws RX5 TX5 2, w ∈ wsX5_clear := by decide +kernel
  have f15 := hts (.fieldLink RX5 15 "SortCases$Text" "length" "I") (by decide +kernel)
  refine q_eqL (L' := [(0, .ref h0)]) rfl ?_
  obtain ⟨htkx1, hcx1, ftx1, htrx1, rfl⟩ := h
  have htlx1 := htkx1.1
  have hTox1 : k_isT cI h0 tx [(h0, .inr (4, [.ref hcx1, .int (nI tx.length)])), (hcx1, .inl (cI, 60, .inl ftx1))] := ⟨htkx1, hcx1, ftx1, htrx1, rfl⟩
  refine q_aload_n C dX5_clear_0 1 0 rfl rfl ?_
  refine q_iconst (v := nI 0) C dX5_clear_1 2 rfl (by decide) ?_
  refine q_put (k := 0) (j := 0) (f := 1) C hinX5 tyX5 tyX5_ok nmX5 f15 (fun _ h => h) (by decide) rfl rfl (tyX5_ok 1 (by decide)) rfl rfl dX5_clear_2 5 rfl rfl rfl (Nat.le_of_ble_eq_true rfl) [[(h0, .inr (4, [.ref hcx1, .int (nI 0)])), (hcx1, .inl (cI, 60, .inl ftx1))]] rfl ?_
  exact q_vret C B dX5_clear_5 rfl rfl (fun t0 ht0 => ⟨rfl, _, ⟨k_Tok_nil, _, _, fun i hi => absurd hi (Nat.not_lt_zero i), rfl⟩, rfl⟩)

set_option maxHeartbeats 400000 in
set_option maxRecDepth 100000 in
theorem c_X5_codeAt (l : Launch) {D : va_G} {tys : List (ClassId × FieldType)} {Z : (Nat → Prop) → State → Heap → Prop} (hZ : q_St Z) {cI : ClassId} (hI : tys[0]? = some (cI, .int)) (h0 : Nat) (tx : List Nat) (w : va_W) (h : k_isT cI h0 tx w) (i : Nat) (hi : i < tx.length) : q_Ct l D tys Z yX5_codeAt wsX5_codeAt ({ frames := 1, cells := 0, slots := 0, locals := 42 } : Room) 0 0 [.ref h0, .int (nI i)] [w] (fun v0 R0 _ => v0 = some (.int (nI (k_at tx i))) ∧ R0 = [w]) := by
  have hcI := hI
  refine q_ct (cc := cX5_codeAt) (maxL := 2) (ret := (some .int)) (own := RX5) (by decide) rfl hZ (Nat.le_of_ble_eq_true rfl) rfl ?_
  intro p9 e9 R s9 m9 args below meth c9 A Q C B
  have hts := C.2.2.2.2.1
  have hinX5 : ∀ w ∈ u_ws RX5 TX5 2, w ∈ wsX5_codeAt := by decide +kernel
  have f15 := hts (.fieldLink RX5 15 "SortCases$Text" "length" "I") (by decide +kernel)
  have f9 := hts (.fieldLink RX5 9 "SortCases$Text" "codes" "[I") (by decide +kernel)
  refine q_eqL (L' := [(0, .ref h0), (1, .int (nI i))]) rfl ?_
  obtain ⟨htkx1, hcx1, ftx1, htrx1, rfl⟩ := h
  have htlx1 := htkx1.1
  have hTox1 : k_isT cI h0 tx [(h0, .inr (4, [.ref hcx1, .int (nI tx.length)])), (hcx1, .inl (cI, 60, .inl ftx1))] := ⟨htkx1, hcx1, ftx1, htrx1, rfl⟩
  refine q_iload_n C dX5_codeAt_0 1 1 rfl rfl ?_
  refine q_if_lt C dX5_codeAt_1 4 30 rfl (by decide) (q_lt0 (by omega)) (fun h1 => False.elim (by first | omega | simp_all)) (fun h1 => ?_)
  refine q_iload_n C dX5_codeAt_4 5 1 rfl rfl ?_
  refine q_aload_n C dX5_codeAt_5 6 0 rfl rfl ?_
  refine q_get (k := 0) (j := 0) (f := 1) C hinX5 f15 (fun _ h => h) (by decide) rfl dX5_codeAt_6 9 rfl rfl rfl rfl ?_
  refine q_icmp_ge C dX5_codeAt_9 12 30 rfl (by decide) (nI_leI (by omega) (by omega)) (fun h9 => False.elim (by first | omega | simp_all)) (fun h9 => ?_)
  refine q_iload_n C dX5_codeAt_12 13 1 rfl rfl ?_
  refine q_aload_n C dX5_codeAt_13 14 0 rfl rfl ?_
  refine q_get (k := 0) (j := 0) (f := 0) C hinX5 f9 (fun _ h => h) (by decide) rfl dX5_codeAt_14 17 rfl rfl rfl rfl ?_
  refine q_alen (k := 0) (j := 1) (v := nI 60) C dX5_codeAt_17 18 rfl rfl rfl hcI rfl ?_
  refine q_icmp_ge C dX5_codeAt_18 21 30 rfl (by decide) (nI_leI (by omega) (by omega)) (fun h18 => False.elim (by first | omega | simp_all)) (fun h18 => ?_)
  refine q_aload_n C dX5_codeAt_21 22 0 rfl rfl ?_
  refine q_get (k := 0) (j := 0) (f := 0) C hinX5 f9 (fun _ h => h) (by decide) rfl dX5_codeAt_22 25 rfl rfl rfl rfl ?_
  refine q_iload_n C dX5_codeAt_25 26 1 rfl rfl ?_
  refine q_iald (k := 0) (j := 1) (v := nI (k_at tx i)) C dX5_codeAt_26 27 rfl rfl rfl hcI i rfl (by omega) (by decide) (htrx1 i (by omega)) ?_
  have hux26_1 : k_at tx i ≤ 126 := (k_at_le htkx1.2 (by omega)).2
  have huy26_2 : 33 ≤ k_at tx i := (k_at_le htkx1.2 (by omega)).1
  refine q_goto C dX5_codeAt_27 31 (by decide) ?_
  exact q_iret C B dX5_codeAt_31 rfl rfl (fun t0 ht0 => ⟨rfl, rfl⟩)

set_option maxHeartbeats 400000 in
set_option maxRecDepth 100000 in
theorem c_X5_letterAt (l : Launch) {D : va_G} {tys : List (ClassId × FieldType)} {Z : (Nat → Prop) → State → Heap → Prop} (hZ : q_St Z) {cI : ClassId} (hI : tys[0]? = some (cI, .int)) (h0 : Nat) (tx : List Nat) (w : va_W) (h : k_isT cI h0 tx w) (i : Nat) (hi : i < tx.length) : q_Ct l D tys Z yX5_letterAt wsX5_letterAt ({ frames := 2, cells := 0, slots := 0, locals := 72 } : Room) 0 0 [.ref h0, .int (nI i)] [w] (fun v0 R0 _ => v0 = some (.int (nI (k_at tx i) - nI 97)) ∧ R0 = [w]) := by
  have hcI := hI
  refine q_ct (cc := cX5_letterAt) (maxL := 2) (ret := (some .int)) (own := RX5) (by decide) rfl hZ (Nat.le_of_ble_eq_true rfl) rfl ?_
  intro p9 e9 R s9 m9 args below meth c9 A Q C B
  have hts := C.2.2.2.2.1
  refine q_eqL (L' := [(0, .ref h0), (1, .int (nI i))]) rfl ?_
  refine q_aload_n C dX5_letterAt_0 1 0 rfl rfl ?_
  refine q_iload_n C dX5_letterAt_1 2 1 rfl rfl ?_
  refine q_callV (k := 0) (ci := 4) (n := 1) (rest := []) (Rr := []) C rfl (k_isT_recv h) rfl (c_X5_codeAt l hZ hI h0 tx w h i (by omega)) gX5_letterAt_X5_codeAt rfl rfl rfl (by decide +kernel) B.1 ⟨Nat.le_of_ble_eq_true rfl, Nat.le_of_ble_eq_true rfl⟩ rfl rfl (Nat.le_of_ble_eq_true rfl) dX5_letterAt_2 ⟨Nat.le_of_ble_eq_true rfl, Nat.le_of_ble_eq_true rfl⟩ [0] [] (by decide : ([0] ++ ([] : List Nat)).Perm (List.range 1)) rfl rfl 5 rfl (fun v0 R0 t0 ht0 hp0 => ?_)
  obtain ⟨rfl, rfl⟩ := hp0
  refine q_eqs (st' := [.int (nI (k_at tx i))]) rfl ?_
  refine q_eqR (Rs' := [w]) rfl ?_
  have hc2 : k_at tx i ≤ 126 := (k_at_le h.1.2 (by omega)).2
  have hd2 : 33 ≤ k_at tx i := (k_at_le h.1.2 (by omega)).1
  refine q_bipush (v := nI 97) C dX5_letterAt_5 7 rfl (by decide) ?_
  refine q_isub (v := nI (k_at tx i) - nI 97) C dX5_letterAt_7 8 rfl rfl ?_
  exact q_iret C B dX5_letterAt_8 rfl rfl (fun t0 ht0 => ⟨rfl, rfl⟩)

set_option maxHeartbeats 400000 in
set_option maxRecDepth 100000 in
theorem c_X5_isPartEnd (l : Launch) {D : va_G} {tys : List (ClassId × FieldType)} {Z : (Nat → Prop) → State → Heap → Prop} (hZ : q_St Z) {cI : ClassId} (hI : tys[0]? = some (cI, .int)) (h0 : Nat) (tx : List Nat) (w : va_W) (h : k_isT cI h0 tx w) (i : Nat) (hi : i ≤ tx.length) : q_Ct l D tys Z yX5_isPartEnd wsX5_isPartEnd ({ frames := 2, cells := 0, slots := 0, locals := 72 } : Room) 0 0 [.ref h0, .int (nI i)] [w] (fun v0 R0 _ => v0 = some (.int (q_b (decide (i = (tx).length ∨ k_sg tx i = 59)))) ∧ R0 = [w]) := by
  have hcI := hI
  refine q_ct (cc := cX5_isPartEnd) (maxL := 2) (ret := (some .boolean)) (own := RX5) (by decide) rfl hZ (Nat.le_of_ble_eq_true rfl) rfl ?_
  intro p9 e9 R s9 m9 args below meth c9 A Q C B
  have hts := C.2.2.2.2.1
  have hinX5 : ∀ w ∈ u_ws RX5 TX5 2, w ∈ wsX5_isPartEnd := by decide +kernel
  have f15 := hts (.fieldLink RX5 15 "SortCases$Text" "length" "I") (by decide +kernel)
  refine q_eqL (L' := [(0, .ref h0), (1, .int (nI i))]) rfl ?_
  obtain ⟨htkx1, hcx1, ftx1, htrx1, rfl⟩ := h
  have htlx1 := htkx1.1
  have hTox1 : k_isT cI h0 tx [(h0, .inr (4, [.ref hcx1, .int (nI tx.length)])), (hcx1, .inl (cI, 60, .inl ftx1))] := ⟨htkx1, hcx1, ftx1, htrx1, rfl⟩
  refine q_iload_n C dX5_isPartEnd_0 1 1 rfl rfl ?_
  refine q_aload_n C dX5_isPartEnd_1 2 0 rfl rfl ?_
  refine q_get (k := 0) (j := 0) (f := 1) C hinX5 f15 (fun _ h => h) (by decide) rfl dX5_isPartEnd_2 5 rfl rfl rfl rfl ?_
  refine q_icmp_eq C dX5_isPartEnd_5 8 18 rfl (by decide) (nI_eq (by omega) (by omega)) (fun h5 => ?_) (fun h5 => ?_)
  · refine q_iconst (v := nI 1) C dX5_isPartEnd_18 19 rfl (by decide) ?_
    refine q_goto C dX5_isPartEnd_19 23 (by decide) ?_
    exact q_zret C B (by decide) dX5_isPartEnd_23 rfl rfl (fun t0 ht0 => ⟨by rw [decide_eq_true (Or.inl (by omega))]; rfl, rfl⟩)
  · refine q_aload_n C dX5_isPartEnd_8 9 0 rfl rfl ?_
    refine q_iload_n C dX5_isPartEnd_9 10 1 rfl rfl ?_
    refine q_callV (k := 0) (ci := 4) (n := 1) (rest := []) (Rr := []) C rfl (k_isT_recv hTox1) rfl (c_X5_codeAt l hZ hI h0 tx ([(h0, .inr (4, [.ref hcx1, .int (nI tx.length)])), (hcx1, .inl (cI, 60, .inl ftx1))]) hTox1 i (by omega)) gX5_isPartEnd_X5_codeAt rfl rfl rfl (by decide +kernel) B.1 ⟨Nat.le_of_ble_eq_true rfl, Nat.le_of_ble_eq_true rfl⟩ rfl rfl (Nat.le_of_ble_eq_true rfl) dX5_isPartEnd_10 ⟨Nat.le_of_ble_eq_true rfl, Nat.le_of_ble_eq_true rfl⟩ [0] [] (by decide : ([0] ++ ([] : List Nat)).Perm (List.range 1)) rfl rfl 13 rfl (fun v0 R0 t0 ht0 hp0 => ?_)
    obtain ⟨rfl, rfl⟩ := hp0
    refine q_eqs (st' := [.int (nI (k_at tx i))]) rfl ?_
    refine q_eqR (Rs' := [[(h0, .inr (4, [.ref hcx1, .int (nI tx.length)])), (hcx1, .inl (cI, 60, .inl ftx1))]]) rfl ?_
    have hc10 : k_at tx i ≤ 126 := (k_at_le hTox1.1.2 (by omega)).2
    have hd10 : 33 ≤ k_at tx i := (k_at_le hTox1.1.2 (by omega)).1
    refine q_bipush (v := nI 59) C dX5_isPartEnd_13 15 rfl (by decide) ?_
    refine q_icmp_ne C dX5_isPartEnd_15 18 22 rfl (by decide) (nI_eq (by omega) (by omega)) (fun h15 => ?_) (fun h15 => ?_)
    · refine q_iconst (v := nI 0) C dX5_isPartEnd_22 23 rfl (by decide) ?_
      exact q_zret C B (by decide) dX5_isPartEnd_23 rfl rfl (fun t0 ht0 => ⟨by rw [decide_eq_false (fun z => z.elim (fun e => by omega) (fun e => by rw [k_sg_in (by omega)] at e; omega))]; rfl, rfl⟩)
    · refine q_iconst (v := nI 1) C dX5_isPartEnd_18 19 rfl (by decide) ?_
      refine q_goto C dX5_isPartEnd_19 23 (by decide) ?_
      exact q_zret C B (by decide) dX5_isPartEnd_23 rfl rfl (fun t0 ht0 => ⟨by rw [decide_eq_true (Or.inr (by rw [k_sg_in (by omega)]; omega))]; rfl, rfl⟩)

set_option maxHeartbeats 400000 in
set_option maxRecDepth 100000 in
theorem c_X5_numberIn (l : Launch) {D : va_G} {tys : List (ClassId × FieldType)} {Z : (Nat → Prop) → State → Heap → Prop} (hZ : q_St Z) {cI : ClassId} (hI : tys[0]? = some (cI, .int)) (h0 : Nat) (tx : List Nat) (w : va_W) (h : k_isT cI h0 tx w) (i : Nat) (e : Nat) (lo : Nat) (hi : Nat) (hlo : lo ≤ 1) (he : e = i + k_dw tx lo hi i) (h1 : 1 ≤ k_dw tx lo hi i) (hel : e ≤ tx.length) : q_Ct l D tys Z yX5_numberIn wsX5_numberIn ({ frames := 2, cells := 0, slots := 0, locals := 72 } : Room) 0 0 [.ref h0, .int (nI i), .int (nI e)] [w] (fun v0 R0 _ => v0 = some (.int (nI (k_nv tx hi i))) ∧ R0 = [w]) := by
  have hcI := hI
  refine q_ct (cc := cX5_numberIn) (maxL := 5) (ret := (some .int)) (own := RX5) (by decide) rfl hZ (Nat.le_of_ble_eq_true rfl) rfl ?_
  intro p9 e9 R s9 m9 args below meth c9 A Q C B
  have hts := C.2.2.2.2.1
  refine q_eqL (L' := [(0, .ref h0), (1, .int (nI i)), (2, .int (nI e))]) rfl ?_
  have htl := h.1.1
  have hdp := k_dw_pos h1
  have hdg := k_dw_ge (hi := hi) hdp
  have hg0 : k_sg tx i = k_at tx i := k_sg_in (by omega)
  refine q_iconst (v := nI 0) C dX5_numberIn_0 1 rfl (by decide) ?_
  refine q_istore_n C dX5_numberIn_1 2 rfl [(3, .int (nI 0)), (0, .ref h0), (1, .int (nI i)), (2, .int (nI e))] (by decide) rfl ?_
  refine q_iload_n C dX5_numberIn_2 3 2 rfl rfl ?_
  refine q_istore C dX5_numberIn_3 5 rfl [(4, .int (nI i)), (3, .int (nI 0)), (0, .ref h0), (1, .int (nI i)), (2, .int (nI e))] (by decide) rfl ?_
  obtain hd | hd : k_dw tx lo hi i = 1 ∨ k_dw tx lo hi i = 2 := by omega
  · have he1 : e = i + 1 := by omega
    refine q_iload C dX5_numberIn_5 7 0 rfl rfl ?_
    refine q_iload_n C dX5_numberIn_7 8 4 rfl rfl ?_
    refine q_icmp_ge C dX5_numberIn_8 11 32 rfl (by decide) (nI_leI (by omega) (by omega)) (fun h8 => False.elim (by first | omega | simp_all)) (fun h8 => ?_)
    refine q_iload_n C dX5_numberIn_11 12 1 rfl rfl ?_
    refine q_bipush (v := nI 10) C dX5_numberIn_12 14 rfl (by decide) ?_
    refine q_imul (v := nI 0) C dX5_numberIn_14 15 rfl (q_nmul (by omega)) ?_
    refine q_aload_n C dX5_numberIn_15 16 2 rfl rfl ?_
    refine q_iload C dX5_numberIn_16 18 0 rfl rfl ?_
    refine q_callV (k := 0) (ci := 4) (n := 1) (rest := [.int (nI 0)]) (Rr := []) C rfl (k_isT_recv h) rfl (c_X5_codeAt l hZ hI h0 tx w h i (by omega)) gX5_numberIn_X5_codeAt rfl rfl rfl (by decide +kernel) B.1 ⟨Nat.le_of_ble_eq_true rfl, Nat.le_of_ble_eq_true rfl⟩ rfl rfl (Nat.le_of_ble_eq_true rfl) dX5_numberIn_18 ⟨Nat.le_of_ble_eq_true rfl, Nat.le_of_ble_eq_true rfl⟩ [0] [] (by decide : ([0] ++ ([] : List Nat)).Perm (List.range 1)) rfl rfl 21 rfl (fun v0 R0 t0 ht0 hp0 => ?_)
    obtain ⟨rfl, rfl⟩ := hp0
    refine q_eqs (st' := [.int (nI (k_at tx i)), .int (nI 0)]) rfl ?_
    refine q_eqR (Rs' := [w]) rfl ?_
    have hc18 : k_at tx i ≤ 126 := (k_at_le h.1.2 (by omega)).2
    have hd18 : 33 ≤ k_at tx i := (k_at_le h.1.2 (by omega)).1
    refine q_iadd (v := nI (k_at tx i)) C dX5_numberIn_21 22 rfl (q_nadd (by omega)) ?_
    refine q_bipush (v := nI 48) C dX5_numberIn_22 24 rfl (by decide) ?_
    refine q_isub (v := nI (k_at tx i - 48)) C dX5_numberIn_24 25 rfl (q_nsub (by omega) (by omega)) ?_
    refine q_istore_n C dX5_numberIn_25 26 rfl [(3, .int (nI (k_at tx i - 48))), (4, .int (nI i)), (0, .ref h0), (1, .int (nI i)), (2, .int (nI e))] (by decide) rfl ?_
    refine q_iinc (v := nI (i + 1)) C dX5_numberIn_26 29 1 rfl rfl (q_ninc1 (by omega)) [(4, .int (nI (i + 1))), (3, .int (nI (k_at tx i - 48))), (0, .ref h0), (1, .int (nI i)), (2, .int (nI e))] (by decide) rfl ?_
    refine q_goto C dX5_numberIn_29 5 (by decide) ?_
    refine q_iload C dX5_numberIn_5 7 0 rfl rfl ?_
    refine q_iload_n C dX5_numberIn_7 8 4 rfl rfl ?_
    refine q_icmp_ge C dX5_numberIn_8 11 32 rfl (by decide) (nI_leI (by omega) (by omega)) (fun h8 => ?_) (fun h8 => False.elim (by first | omega | simp_all))
    refine q_iload_n C dX5_numberIn_32 33 1 rfl rfl ?_
    exact q_iret C B dX5_numberIn_33 rfl rfl (fun t0 ht0 => ⟨by rw [k_nv_of1 hdp hd, hg0], rfl⟩)
  · have he2 : e = i + 2 := by omega
    refine q_iload C dX5_numberIn_5 7 0 rfl rfl ?_
    refine q_iload_n C dX5_numberIn_7 8 4 rfl rfl ?_
    refine q_icmp_ge C dX5_numberIn_8 11 32 rfl (by decide) (nI_leI (by omega) (by omega)) (fun h8 => False.elim (by first | omega | simp_all)) (fun h8 => ?_)
    refine q_iload_n C dX5_numberIn_11 12 1 rfl rfl ?_
    refine q_bipush (v := nI 10) C dX5_numberIn_12 14 rfl (by decide) ?_
    refine q_imul (v := nI 0) C dX5_numberIn_14 15 rfl (q_nmul (by omega)) ?_
    refine q_aload_n C dX5_numberIn_15 16 2 rfl rfl ?_
    refine q_iload C dX5_numberIn_16 18 0 rfl rfl ?_
    refine q_callV (k := 0) (ci := 4) (n := 1) (rest := [.int (nI 0)]) (Rr := []) C rfl (k_isT_recv h) rfl (c_X5_codeAt l hZ hI h0 tx w h i (by omega)) gX5_numberIn_X5_codeAt rfl rfl rfl (by decide +kernel) B.1 ⟨Nat.le_of_ble_eq_true rfl, Nat.le_of_ble_eq_true rfl⟩ rfl rfl (Nat.le_of_ble_eq_true rfl) dX5_numberIn_18 ⟨Nat.le_of_ble_eq_true rfl, Nat.le_of_ble_eq_true rfl⟩ [0] [] (by decide : ([0] ++ ([] : List Nat)).Perm (List.range 1)) rfl rfl 21 rfl (fun v0 R0 t0 ht0 hp0 => ?_)
    obtain ⟨rfl, rfl⟩ := hp0
    refine q_eqs (st' := [.int (nI (k_at tx i)), .int (nI 0)]) rfl ?_
    refine q_eqR (Rs' := [w]) rfl ?_
    have hc18 : k_at tx i ≤ 126 := (k_at_le h.1.2 (by omega)).2
    have hd18 : 33 ≤ k_at tx i := (k_at_le h.1.2 (by omega)).1
    refine q_iadd (v := nI (k_at tx i)) C dX5_numberIn_21 22 rfl (q_nadd (by omega)) ?_
    refine q_bipush (v := nI 48) C dX5_numberIn_22 24 rfl (by decide) ?_
    refine q_isub (v := nI (k_at tx i - 48)) C dX5_numberIn_24 25 rfl (q_nsub (by omega) (by omega)) ?_
    refine q_istore_n C dX5_numberIn_25 26 rfl [(3, .int (nI (k_at tx i - 48))), (4, .int (nI i)), (0, .ref h0), (1, .int (nI i)), (2, .int (nI e))] (by decide) rfl ?_
    refine q_iinc (v := nI (i + 1)) C dX5_numberIn_26 29 1 rfl rfl (q_ninc1 (by omega)) [(4, .int (nI (i + 1))), (3, .int (nI (k_at tx i - 48))), (0, .ref h0), (1, .int (nI i)), (2, .int (nI e))] (by decide) rfl ?_
    refine q_goto C dX5_numberIn_29 5 (by decide) ?_
    refine q_iload C dX5_numberIn_5 7 0 rfl rfl ?_
    refine q_iload_n C dX5_numberIn_7 8 4 rfl rfl ?_
    refine q_icmp_ge C dX5_numberIn_8 11 32 rfl (by decide) (nI_leI (by omega) (by omega)) (fun h8 => False.elim (by first | omega | simp_all)) (fun h8 => ?_)
    have hg1 : k_sg tx (i + 1) = k_at tx (i + 1) := k_sg_in (by omega)
    have hd2 := k_dw_2i hd
    rw [hg0, hg1] at hd2
    refine q_iload_n C dX5_numberIn_11 12 1 rfl rfl ?_
    refine q_bipush (v := nI 10) C dX5_numberIn_12 14 rfl (by decide) ?_
    refine q_imul (v := nI (10 * k_at tx i - 480)) C dX5_numberIn_14 15 rfl (q_nmul (by omega)) ?_
    refine q_aload_n C dX5_numberIn_15 16 2 rfl rfl ?_
    refine q_iload C dX5_numberIn_16 18 0 rfl rfl ?_
    refine q_callV (k := 0) (ci := 4) (n := 1) (rest := [.int (nI (10 * k_at tx i - 480))]) (Rr := []) C rfl (k_isT_recv h) rfl (c_X5_codeAt l hZ hI h0 tx w h (i + 1) (by omega)) gX5_numberIn_X5_codeAt rfl rfl rfl (by decide +kernel) B.1 ⟨Nat.le_of_ble_eq_true rfl, Nat.le_of_ble_eq_true rfl⟩ rfl rfl (Nat.le_of_ble_eq_true rfl) dX5_numberIn_18 ⟨Nat.le_of_ble_eq_true rfl, Nat.le_of_ble_eq_true rfl⟩ [0] [] (by decide : ([0] ++ ([] : List Nat)).Perm (List.range 1)) rfl rfl 21 rfl (fun v0 R0 t0 ht0 hp0 => ?_)
    obtain ⟨rfl, rfl⟩ := hp0
    refine q_eqs (st' := [.int (nI (k_at tx (i + 1))), .int (nI (10 * k_at tx i - 480))]) rfl ?_
    refine q_eqR (Rs' := [w]) rfl ?_
    have hc18 : k_at tx (i + 1) ≤ 126 := (k_at_le h.1.2 (by omega)).2
    have hd18 : 33 ≤ k_at tx (i + 1) := (k_at_le h.1.2 (by omega)).1
    refine q_iadd (v := nI (10 * k_at tx i + k_at tx (i + 1) - 480)) C dX5_numberIn_21 22 rfl (q_nadd (by omega)) ?_
    refine q_bipush (v := nI 48) C dX5_numberIn_22 24 rfl (by decide) ?_
    refine q_isub (v := nI (10 * k_at tx i + k_at tx (i + 1) - 528)) C dX5_numberIn_24 25 rfl (q_nsub (by omega) (by omega)) ?_
    refine q_istore_n C dX5_numberIn_25 26 rfl [(3, .int (nI (10 * k_at tx i + k_at tx (i + 1) - 528))), (4, .int (nI (i + 1))), (0, .ref h0), (1, .int (nI i)), (2, .int (nI e))] (by decide) rfl ?_
    refine q_iinc (v := nI (i + 2)) C dX5_numberIn_26 29 1 rfl rfl (q_ninc1 (by omega)) [(4, .int (nI (i + 2))), (3, .int (nI (10 * k_at tx i + k_at tx (i + 1) - 528))), (0, .ref h0), (1, .int (nI i)), (2, .int (nI e))] (by decide) rfl ?_
    refine q_goto C dX5_numberIn_29 5 (by decide) ?_
    refine q_iload C dX5_numberIn_5 7 0 rfl rfl ?_
    refine q_iload_n C dX5_numberIn_7 8 4 rfl rfl ?_
    refine q_icmp_ge C dX5_numberIn_8 11 32 rfl (by decide) (nI_leI (by omega) (by omega)) (fun h8 => ?_) (fun h8 => False.elim (by first | omega | simp_all))
    refine q_iload_n C dX5_numberIn_32 33 1 rfl rfl ?_
    exact q_iret C B dX5_numberIn_33 rfl rfl (fun t0 ht0 => ⟨by rw [k_nv_of2 hd, hg0, hg1]; congr 3; omega, rfl⟩)

set_option maxHeartbeats 400000 in
set_option maxRecDepth 100000 in
theorem c_X6_setLetters (l : Launch) {D : va_G} {tys : List (ClassId × FieldType)} {Z : (Nat → Prop) → State → Heap → Prop} (hZ : q_St Z) {cI : ClassId} (hI : tys[0]? = some (cI, .int)) (hN : q_Ns Z) (h0 : Nat) (aO : Nat) (aY : Nat) (aN : Nat) (hsn : Int32) (aT : Nat) (aK : Nat) (wX : va_W) (hX : k_isX cI h0 aO aY aN hsn aT aK wX) (aB : Nat) (aL : Nat) (aS : Nat) (sc : Nat → Int32) (wO : va_W) (hO : k_isO cI aO aB aL aS sc wO) (wA : va_W) (hA : k_isA cI aS sc wA) (bx : k_Bx) (at0 : Nat) (wB : va_W) (hB : k_isB cI aB bx at0 wB) (ln : List (Nat × Nat)) (wL : va_W) (hL : k_isL cI aL ln wL) (tx : List Nat) (wT : va_W) (hT : k_isT cI aT tx wT) (i0 : Nat) (e0 : Nat) (m : Nat) (hsw : k_Sw (bx, at0, ln, sc)) (he0 : e0 = i0 + m) (ham : i0 + m ≤ tx.length) (hlet : ∀ j, j < m → 97 ≤ k_sg tx (i0 + j) ∧ k_sg tx (i0 + j) ≤ 108) : q_Ct l D tys Z yX6_setLetters wsX6_setLetters ({ frames := 5, cells := 0, slots := 0, locals := 162 } : Room) 0 0 [.ref h0, .int (nI i0), .int (nI e0)] [wX, wO, wA, wB, wL, wT] (fun v0 R0 _ => v0 = some (.int (nI ((k_sl tx m i0 (bx, at0, ln, sc)).2))) ∧ ∃ wO', k_isO cI aO aB aL aS ((k_sl tx m i0 (bx, at0, ln, sc)).1.2.2.2) wO' ∧ ∃ wA', k_isA cI aS ((k_sl tx m i0 (bx, at0, ln, sc)).1.2.2.2) wA' ∧ ∃ wB', k_isB cI aB ((k_sl tx m i0 (bx, at0, ln, sc)).1.1) ((k_sl tx m i0 (bx, at0, ln, sc)).1.2.1) wB' ∧ ∃ wL', k_isL cI aL ((k_sl tx m i0 (bx, at0, ln, sc)).1.2.2.1) wL' ∧ R0 = [wX, wO', wA', wB', wL', wT]) := by
  have hcI := hI
  refine q_ct (cc := cX6_setLetters) (maxL := 6) (ret := (some .int)) (own := RX6) (by decide) rfl hZ (Nat.le_of_ble_eq_true rfl) rfl ?_
  intro p9 e9 R s9 m9 args below meth c9 A Q C B
  have hts := C.2.2.2.2.1
  have hinX6 : ∀ w ∈ u_ws RX6 TX6 6, w ∈ wsX6_setLetters := by decide +kernel
  have f33 := hts (.fieldLink RX6 33 "SortCases" "text" "LSortCases$Text;") (by decide +kernel)
  have f12 := hts (.fieldLink RX6 12 "SortCases" "state" "LSortCases$State;") (by decide +kernel)
  refine q_eqL (L' := [(0, .ref h0), (1, .int (nI i0)), (2, .int (nI e0))]) rfl ?_
  subst he0
  have htl := hT.1.1
  refine q_iload_n C dX6_setLetters_0 1 1 rfl rfl ?_
  refine q_istore_n C dX6_setLetters_1 2 rfl [(3, .int (nI i0)), (0, .ref h0), (1, .int (nI i0)), (2, .int (nI (i0 + m)))] (by decide) rfl ?_
  have lp : ∀ (kk : Nat) (j : Nat) (T : k_S) (wo : va_W) (wa : va_W) (wb : va_W) (wl : va_W), m - j < kk → ∀ (hj : j ≤ m), ∀ (hTT : k_sl tx m i0 (bx, at0, ln, sc) = k_sl tx (m - j) (i0 + j) T), ∀ (hTw : k_Sw T), ∀ (hwo : k_isO cI aO aB aL aS T.2.2.2 wo), ∀ (hwa : k_isA cI aS T.2.2.2 wa), ∀ (hwb : k_isB cI aB T.1 T.2.1 wb), ∀ (hwl : k_isL cI aL T.2.2.1 wl), q_V p9 l e9 R s9 m9 args below meth c9 D A 6 Q 0 0 2 [(3, .int (nI (i0 + j))), (0, .ref h0), (1, .int (nI i0)), (2, .int (nI (i0 + m)))] [] [wX, wo, wa, wb, wl, wT] := by
    intro kk
    induction kk with
    | zero => intro j T wo wa wb wl hkk; exact absurd hkk (Nat.not_lt_zero _)
    | succ kk ih_lp =>
      intro j T wo wa wb wl hkk hj hTT hTw hwo hwa hwb hwl
      have hTl := hTw.1.2.2.1
      refine q_iload_n C dX6_setLetters_2 3 0 rfl rfl ?_
      refine q_iload_n C dX6_setLetters_3 4 3 rfl rfl ?_
      refine q_icmp_ge C dX6_setLetters_4 7 52 rfl (by decide) (nI_leI (by omega) (by omega)) (fun h4 => ?_) (fun h4 => ?_)
      · refine q_iconst (v := nI 0) C dX6_setLetters_52 53 rfl (by decide) ?_
        exact q_iret C B dX6_setLetters_53 rfl rfl (fun t0 ht0 => ⟨by rw [show k_sl tx m i0 (bx, at0, ln, sc) = (T, 0) from hTT.trans (by rw [show m - j = 0 by omega]; rfl)], _, by rw [show k_sl tx m i0 (bx, at0, ln, sc) = (T, 0) from hTT.trans (by rw [show m - j = 0 by omega]; rfl)]; exact hwo, _, by rw [show k_sl tx m i0 (bx, at0, ln, sc) = (T, 0) from hTT.trans (by rw [show m - j = 0 by omega]; rfl)]; exact hwa, _, by rw [show k_sl tx m i0 (bx, at0, ln, sc) = (T, 0) from hTT.trans (by rw [show m - j = 0 by omega]; rfl)]; exact hwb, _, by rw [show k_sl tx m i0 (bx, at0, ln, sc) = (T, 0) from hTT.trans (by rw [show m - j = 0 by omega]; rfl)]; exact hwl, by first | rfl | simp⟩)
      · refine q_aload_n C dX6_setLetters_7 8 1 rfl rfl ?_
        obtain rfl := hX
        have hXox1 : k_isX cI h0 aO aY aN hsn aT aK [(h0, .inr (5, [.ref aO, .ref aY, .ref aN, .int hsn, .ref aT, .ref aK]))] := rfl
        refine q_get (k := 0) (j := 0) (f := 4) C hinX6 f33 (fun _ h => h) (by decide) rfl dX6_setLetters_8 11 rfl rfl rfl rfl ?_
        refine q_iload_n C dX6_setLetters_11 12 0 rfl rfl ?_
        refine q_callV (k := 5) (ci := 4) (n := 1) (rest := []) (Rr := [[(h0, .inr (5, [.ref aO, .ref aY, .ref aN, .int hsn, .ref aT, .ref aK]))], wo, wa, wb, wl]) C rfl (k_isT_recv hT) rfl (c_X5_letterAt l hZ hI aT tx wT hT (i0 + j) (by omega)) gX6_setLetters_X5_letterAt rfl rfl rfl (by decide +kernel) B.1 ⟨Nat.le_of_ble_eq_true rfl, Nat.le_of_ble_eq_true rfl⟩ rfl rfl (Nat.le_of_ble_eq_true rfl) dX6_setLetters_12 ⟨Nat.le_of_ble_eq_true rfl, Nat.le_of_ble_eq_true rfl⟩ [5] [0, 1, 2, 3, 4] (by decide : ([5] ++ ([0, 1, 2, 3, 4] : List Nat)).Perm (List.range 6)) rfl rfl 15 rfl (fun v0 R0 t0 ht0 hp0 => ?_)
        obtain ⟨rfl, rfl⟩ := hp0
        refine q_eqs (st' := [.int (nI (k_at tx (i0 + j)) - nI 97)]) rfl ?_
        refine q_reord [1, 2, 3, 4, 5, 0] (by decide : ([1, 2, 3, 4, 5, 0] : List Nat).Perm (List.range 6)) (Rs' := [[(h0, .inr (5, [.ref aO, .ref aY, .ref aN, .int hsn, .ref aT, .ref aK]))], wo, wa, wb, wl, wT]) rfl rfl ?_
        have hlj := hlet j (by omega)
        have hgj : k_sg tx (i0 + j) = k_at tx (i0 + j) := k_sg_in (by omega)
        rw [hgj] at hlj
        refine q_eqs (st' := [.int (nI (k_at tx (i0 + j) - 97))]) (by rw [q_nsub (by omega) rfl]) ?_
        refine q_istore C dX6_setLetters_15 17 rfl [(4, .int (nI (k_at tx (i0 + j) - 97))), (3, .int (nI (i0 + j))), (0, .ref h0), (1, .int (nI i0)), (2, .int (nI (i0 + m)))] (by decide) rfl ?_
        refine q_aload_n C dX6_setLetters_17 18 2 rfl rfl ?_
        refine q_get (k := 0) (j := 0) (f := 0) C hinX6 f12 (fun _ h => h) (by decide) rfl dX6_setLetters_18 21 rfl rfl rfl rfl ?_
        refine q_iload C dX6_setLetters_21 23 0 rfl rfl ?_
        refine q_callV (k := 1) (ci := 3) (n := 1) (rest := []) (Rr := [[(h0, .inr (5, [.ref aO, .ref aY, .ref aN, .int hsn, .ref aT, .ref aK]))], wT]) C rfl (k_isO_recv hwo) rfl (c_X4_whyNotSet l hZ hI hN aO aB aL aS T.2.2.2 wo hwo wa hwa T.1 T.2.1 wb hwb T.2.2.1 wl hwl (k_at tx (i0 + j) - 97) (by omega)) gX6_setLetters_X4_whyNotSet rfl rfl rfl (by decide +kernel) B.1 ⟨Nat.le_of_ble_eq_true rfl, Nat.le_of_ble_eq_true rfl⟩ rfl rfl (Nat.le_of_ble_eq_true rfl) dX6_setLetters_23 ⟨Nat.le_of_ble_eq_true rfl, Nat.le_of_ble_eq_true rfl⟩ [1, 2, 3, 4] [0, 5] (by decide : ([1, 2, 3, 4] ++ ([0, 5] : List Nat)).Perm (List.range 6)) rfl rfl 26 rfl (fun v0 R0 t0 ht0 hp0 => ?_)
        obtain ⟨rfl, rfl⟩ := hp0
        refine q_eqs (st' := [.int (nI (k_wn T.1 T.2.2.1 T.2.2.2 (k_at tx (i0 + j) - 97)))]) rfl ?_
        refine q_reord [4, 0, 1, 2, 3, 5] (by decide : ([4, 0, 1, 2, 3, 5] : List Nat).Perm (List.range 6)) (Rs' := [[(h0, .inr (5, [.ref aO, .ref aY, .ref aN, .int hsn, .ref aT, .ref aK]))], wo, wa, wb, wl, wT]) rfl rfl ?_
        have hwn2 := k_wn_le T.1 T.2.2.1 T.2.2.2 (k_at tx (i0 + j) - 97)
        refine q_istore C dX6_setLetters_26 28 rfl [(5, .int (nI (k_wn T.1 T.2.2.1 T.2.2.2 (k_at tx (i0 + j) - 97)))), (4, .int (nI (k_at tx (i0 + j) - 97))), (3, .int (nI (i0 + j))), (0, .ref h0), (1, .int (nI i0)), (2, .int (nI (i0 + m)))] (by decide) rfl ?_
        refine q_iload C dX6_setLetters_28 30 0 rfl rfl ?_
        refine q_if_eq C dX6_setLetters_30 33 36 rfl (by decide) (q_eq0 (by omega)) (fun h30 => ?_) (fun h30 => ?_)
        · have hw0 : k_wn T.1 T.2.2.1 T.2.2.2 (k_sg tx (i0 + j) - 97) = 0 := by rw [hgj]; omega
          have hl0 := (k_wn_inv hw0).1
          rw [hgj] at hl0
          refine q_aload_n C dX6_setLetters_36 37 3 rfl rfl ?_
          refine q_get (k := 0) (j := 0) (f := 0) C hinX6 f12 (fun _ h => h) (by decide) rfl dX6_setLetters_37 40 rfl rfl rfl rfl ?_
          refine q_iload C dX6_setLetters_40 42 1 rfl rfl ?_
          refine q_callV (k := 1) (ci := 3) (n := 1) (rest := []) (Rr := [[(h0, .inr (5, [.ref aO, .ref aY, .ref aN, .int hsn, .ref aT, .ref aK]))], wT]) C rfl (k_isO_recv hwo) rfl (c_X4_setLetter l hZ hI aO aB aL aS T.2.2.2 wo hwo wa hwa T.1 T.2.1 wb hwb T.2.2.1 wl hwl (k_at tx (i0 + j) - 97) (by omega) (by omega) (k_Sw_40 hTw hw0) hTw.2.2.1 hTw.2.2.2) gX6_setLetters_X4_setLetter rfl rfl rfl (by decide +kernel) B.1 ⟨Nat.le_of_ble_eq_true rfl, Nat.le_of_ble_eq_true rfl⟩ rfl rfl (Nat.le_of_ble_eq_true rfl) dX6_setLetters_42 ⟨Nat.le_of_ble_eq_true rfl, Nat.le_of_ble_eq_true rfl⟩ [1, 2, 3, 4] [0, 5] (by decide : ([1, 2, 3, 4] ++ ([0, 5] : List Nat)).Perm (List.range 6)) rfl rfl 45 rfl (fun v0 R0 t0 ht0 hp0 => ?_)
          obtain ⟨rfl, wO_42, hwO_42, wA_42, hwA_42, wB_42, hwB_42, wL_42, hwL_42, rfl⟩ := hp0
          refine q_eqs (st' := [.int (nI (k_x T.1 (k_at tx (i0 + j) - 97)))]) rfl ?_
          refine q_reord [4, 0, 1, 2, 3, 5] (by decide : ([4, 0, 1, 2, 3, 5] : List Nat).Perm (List.range 6)) (Rs' := [[(h0, .inr (5, [.ref aO, .ref aY, .ref aN, .int hsn, .ref aT, .ref aK]))], wO_42, wA_42, wB_42, wL_42, wT]) rfl rfl ?_
          refine q_pop C dX6_setLetters_45 46 rfl rfl ?_
          refine q_iinc (v := nI (i0 + j + 1)) C dX6_setLetters_46 49 2 rfl rfl (q_ninc1 (by omega)) [(3, .int (nI (i0 + j + 1))), (5, .int (nI (k_wn T.1 T.2.2.1 T.2.2.2 (k_at tx (i0 + j) - 97)))), (4, .int (nI (k_at tx (i0 + j) - 97))), (0, .ref h0), (1, .int (nI i0)), (2, .int (nI (i0 + m)))] (by decide) rfl ?_
          refine q_goto C dX6_setLetters_49 2 (by decide) ?_
          refine q_sub (L' := [(3, .int (nI (i0 + j + 1))), (0, .ref h0), (1, .int (nI i0)), (2, .int (nI (i0 + m)))]) [0, 3, 4, 5] rfl ?_
          exact ih_lp (j + 1) (k_set T (k_sg tx (i0 + j) - 97)) wO_42 wA_42 wB_42 wL_42 (by omega) (by omega) (by rw [hTT, show m - j = m - (j + 1) + 1 by omega, k_sl_go rfl hw0]; rfl) (k_Sw_set hTw (by omega) hw0) (by have hz := hwO_42; rw [← hgj] at hz; exact hz) (by have hz := hwA_42; rw [← hgj] at hz; exact hz) (by have hz := hwB_42; rw [← hgj] at hz; exact hz) (by have hz := hwL_42; rw [← hgj] at hz; exact hz)
        · refine q_iload C dX6_setLetters_33 35 0 rfl rfl ?_
          exact q_iret C B dX6_setLetters_35 rfl rfl (fun t0 ht0 => ⟨by rw [show k_sl tx m i0 (bx, at0, ln, sc) = (T, k_wn T.1 T.2.2.1 T.2.2.2 (k_at tx (i0 + j) - 97)) from hTT.trans (by rw [show m - j = m - (j + 1) + 1 by omega, k_sl_no (by rw [hgj]) h30])], _, by rw [show k_sl tx m i0 (bx, at0, ln, sc) = (T, k_wn T.1 T.2.2.1 T.2.2.2 (k_at tx (i0 + j) - 97)) from hTT.trans (by rw [show m - j = m - (j + 1) + 1 by omega, k_sl_no (by rw [hgj]) h30])]; exact hwo, _, by rw [show k_sl tx m i0 (bx, at0, ln, sc) = (T, k_wn T.1 T.2.2.1 T.2.2.2 (k_at tx (i0 + j) - 97)) from hTT.trans (by rw [show m - j = m - (j + 1) + 1 by omega, k_sl_no (by rw [hgj]) h30])]; exact hwa, _, by rw [show k_sl tx m i0 (bx, at0, ln, sc) = (T, k_wn T.1 T.2.2.1 T.2.2.2 (k_at tx (i0 + j) - 97)) from hTT.trans (by rw [show m - j = m - (j + 1) + 1 by omega, k_sl_no (by rw [hgj]) h30])]; exact hwb, _, by rw [show k_sl tx m i0 (bx, at0, ln, sc) = (T, k_wn T.1 T.2.2.1 T.2.2.2 (k_at tx (i0 + j) - 97)) from hTT.trans (by rw [show m - j = m - (j + 1) + 1 by omega, k_sl_no (by rw [hgj]) h30])]; exact hwl, by first | rfl | simp⟩)
  refine q_sub (L' := [(3, .int (nI i0)), (0, .ref h0), (1, .int (nI i0)), (2, .int (nI (i0 + m)))]) [0, 1, 2, 3] rfl ?_
  exact lp _ 0 ((bx, at0, ln, sc)) wO wA wB wL (Nat.lt_succ_self _) (by omega) rfl hsw hO hA hB hL

set_option maxHeartbeats 400000 in
set_option maxRecDepth 100000 in
theorem c_X6_mixedWithBox (l : Launch) {D : va_G} {tys : List (ClassId × FieldType)} {Z : (Nat → Prop) → State → Heap → Prop} (hZ : q_St Z) {cI : ClassId} (hI : tys[0]? = some (cI, .int)) (hN : q_Ns Z) (h0 : Nat) (aO : Nat) (aY : Nat) (aN : Nat) (hsn : Int32) (aT : Nat) (aK : Nat) (wX : va_W) (hX : k_isX cI h0 aO aY aN hsn aT aK wX) (aB : Nat) (aL : Nat) (aS : Nat) (sc : Nat → Int32) (wO : va_W) (hO : k_isO cI aO aB aL aS sc wO) (wA : va_W) (hA : k_isA cI aS sc wA) (bx : k_Bx) (at0 : Nat) (wB : va_W) (hB : k_isB cI aB bx at0 wB) (ln : List (Nat × Nat)) (wL : va_W) (hL : k_isL cI aL ln wL) (v : Int64) (b : Nat) (hb : b < 12) : q_Ct l D tys Z yX6_mixedWithBox wsX6_mixedWithBox ({ frames := 5, cells := 0, slots := 0, locals := 162 } : Room) 0 0 [.ref h0, .long v, .int (nI b)] [wX, wO, wA, wB, wL] (fun v0 R0 _ => v0 = some (.long (k_hb bx at0 ln sc b v)) ∧ R0 = [wX, wO, wA, wB, wL]) := by
  have hcI := hI
  refine q_ct (cc := cX6_mixedWithBox) (maxL := 8) (ret := (some .long)) (own := RX6) (by decide) rfl hZ (Nat.le_of_ble_eq_true rfl) rfl ?_
  intro p9 e9 R s9 m9 args below meth c9 A Q C B
  have hts := C.2.2.2.2.1
  have hinX6 : ∀ w ∈ u_ws RX6 TX6 6, w ∈ wsX6_mixedWithBox := by decide +kernel
  have f12 := hts (.fieldLink RX6 12 "SortCases" "state" "LSortCases$State;") (by decide +kernel)
  have hinX4 : ∀ w ∈ u_ws RX4 TX4 11, w ∈ wsX6_mixedWithBox := by decide +kernel
  have f111 := q_nsb hN C (by decide +kernel : Cond.fieldLinkNest "SortCases" 111 "SortCases$State" "boxes" "LSortCases$Boxes;" "SortCases" ∈ q_nest) rfl
  refine q_eqL (L' := [(0, .ref h0), (1, .long v), (3, .int (nI b))]) rfl ?_
  refine q_lload_n C dX6_mixedWithBox_0 1 1 rfl rfl ?_
  refine q_lstore C dX6_mixedWithBox_1 3 rfl [(4, .long v), (0, .ref h0), (1, .long v), (3, .int (nI b))] (by decide) rfl ?_
  refine q_iconst (v := nI 0) C dX6_mixedWithBox_3 4 rfl (by decide) ?_
  refine q_istore C dX6_mixedWithBox_4 6 rfl [(6, .int (nI 0)), (4, .long v), (0, .ref h0), (1, .long v), (3, .int (nI b))] (by decide) rfl ?_
  have lp : ∀ (kk : Nat) (i : Nat) (u : Int64), 7 - i < kk → ∀ (hi : i ≤ 7), ∀ (hu : u = k_hf (k_tb bx at0 sc b) v i), q_V p9 l e9 R s9 m9 args below meth c9 D A 8 Q 0 0 6 [(6, .int (nI i)), (4, .long u), (0, .ref h0), (1, .long v), (3, .int (nI b))] [] [wX, wO, wA, wB, wL] := by
    intro kk
    induction kk with
    | zero => intro i u hkk; exact absurd hkk (Nat.not_lt_zero _)
    | succ kk ih_lp =>
      intro i u hkk hi hu
      refine q_iload C dX6_mixedWithBox_6 8 0 rfl rfl ?_
      refine q_bipush (v := nI 7) C dX6_mixedWithBox_8 10 rfl (by decide) ?_
      refine q_icmp_ge C dX6_mixedWithBox_10 13 34 rfl (by decide) (nI_leI (by omega) (by omega)) (fun h10 => ?_) (fun h10 => ?_)
      · refine q_lload C dX6_mixedWithBox_34 36 1 rfl rfl ?_
        refine q_aload_n C dX6_mixedWithBox_36 37 2 rfl rfl ?_
        obtain rfl := hX
        have hXox1 : k_isX cI h0 aO aY aN hsn aT aK [(h0, .inr (5, [.ref aO, .ref aY, .ref aN, .int hsn, .ref aT, .ref aK]))] := rfl
        refine q_get (k := 0) (j := 0) (f := 0) C hinX6 f12 (fun _ h => h) (by decide) rfl dX6_mixedWithBox_37 40 rfl rfl rfl rfl ?_
        refine q_iload_n C dX6_mixedWithBox_40 41 4 rfl rfl ?_
        refine q_callV (k := 1) (ci := 3) (n := 1) (rest := [.long u]) (Rr := [[(h0, .inr (5, [.ref aO, .ref aY, .ref aN, .int hsn, .ref aT, .ref aK]))]]) C rfl (k_isO_recv hO) rfl (c_X4_whyNotSet l hZ hI hN aO aB aL aS sc wO hO wA hA bx at0 wB hB ln wL hL b (by omega)) gX6_mixedWithBox_X4_whyNotSet rfl rfl rfl (by decide +kernel) B.1 ⟨Nat.le_of_ble_eq_true rfl, Nat.le_of_ble_eq_true rfl⟩ rfl rfl (Nat.le_of_ble_eq_true rfl) dX6_mixedWithBox_41 ⟨Nat.le_of_ble_eq_true rfl, Nat.le_of_ble_eq_true rfl⟩ [1, 2, 3, 4] [0] (by decide : ([1, 2, 3, 4] ++ ([0] : List Nat)).Perm (List.range 5)) rfl rfl 44 rfl (fun v0 R0 t0 ht0 hp0 => ?_)
        obtain ⟨rfl, rfl⟩ := hp0
        refine q_eqs (st' := [.int (nI (k_wn bx ln sc b)), .long u]) rfl ?_
        refine q_reord [4, 0, 1, 2, 3] (by decide : ([4, 0, 1, 2, 3] : List Nat).Perm (List.range 5)) (Rs' := [[(h0, .inr (5, [.ref aO, .ref aY, .ref aN, .int hsn, .ref aT, .ref aK]))], wO, wA, wB, wL]) rfl rfl ?_
        refine q_i2l (v := ((nI (k_wn bx ln sc b)) : Int32).toInt64) C dX6_mixedWithBox_44 45 rfl rfl ?_
        refine q_callS (n := 2) (rest := []) (Rr := [[(h0, .inr (5, [.ref aO, .ref aY, .ref aN, .int hsn, .ref aT, .ref aK]))], wO, wA, wB, wL]) C (c_X6_mixed l hZ hI u (((nI (k_wn bx ln sc b)) : Int32).toInt64)) gX6_mixedWithBox_X6_mixed rfl rfl rfl (by decide +kernel) B.1 ⟨Nat.le_of_ble_eq_true rfl, Nat.le_of_ble_eq_true rfl⟩ rfl rfl (Nat.le_of_ble_eq_true rfl) dX6_mixedWithBox_45 ⟨Nat.le_of_ble_eq_true rfl, Nat.le_of_ble_eq_true rfl⟩ [] [0, 1, 2, 3, 4] (by decide : ([] ++ ([0, 1, 2, 3, 4] : List Nat)).Perm (List.range 5)) rfl rfl 48 rfl (fun v0 R0 t0 ht0 hp0 => ?_)
        obtain ⟨rfl, rfl⟩ := hp0
        refine q_eqs (st' := [.long (31 * u + (((nI (k_wn bx ln sc b)) : Int32).toInt64))]) rfl ?_
        refine q_eqR (Rs' := [[(h0, .inr (5, [.ref aO, .ref aY, .ref aN, .int hsn, .ref aT, .ref aK]))], wO, wA, wB, wL]) rfl ?_
        refine q_lstore C dX6_mixedWithBox_48 50 rfl [(4, .long (31 * u + (((nI (k_wn bx ln sc b)) : Int32).toInt64))), (6, .int (nI i)), (0, .ref h0), (1, .long v), (3, .int (nI b))] (by decide) rfl ?_
        refine q_lload C dX6_mixedWithBox_50 52 0 rfl rfl ?_
        refine q_aload_n C dX6_mixedWithBox_52 53 2 rfl rfl ?_
        refine q_get (k := 0) (j := 0) (f := 0) C hinX6 f12 (fun _ h => h) (by decide) rfl dX6_mixedWithBox_53 56 rfl rfl rfl rfl ?_
        refine q_iload_n C dX6_mixedWithBox_56 57 4 rfl rfl ?_
        refine q_iconst (v := nI 3) C dX6_mixedWithBox_57 58 rfl (by decide) ?_
        refine q_callV (k := 1) (ci := 3) (n := 2) (rest := [.long (31 * u + (((nI (k_wn bx ln sc b)) : Int32).toInt64))]) (Rr := [[(h0, .inr (5, [.ref aO, .ref aY, .ref aN, .int hsn, .ref aT, .ref aK]))]]) C rfl (k_isO_recv hO) rfl (c_X4_errorsIfSet l hZ hI hN aO aB aL aS sc wO hO wA hA bx at0 wB hB ln wL hL b 3 (by omega) (by omega)) gX6_mixedWithBox_X4_errorsIfSet rfl rfl rfl (by decide +kernel) B.1 ⟨Nat.le_of_ble_eq_true rfl, Nat.le_of_ble_eq_true rfl⟩ rfl rfl (Nat.le_of_ble_eq_true rfl) dX6_mixedWithBox_58 ⟨Nat.le_of_ble_eq_true rfl, Nat.le_of_ble_eq_true rfl⟩ [1, 2, 3, 4] [0] (by decide : ([1, 2, 3, 4] ++ ([0] : List Nat)).Perm (List.range 5)) rfl rfl 61 rfl (fun v0 R0 t0 ht0 hp0 => ?_)
        obtain ⟨rfl, rfl⟩ := hp0
        refine q_eqs (st' := [.int (nI (k_ie bx ln sc b 3)), .long (31 * u + (((nI (k_wn bx ln sc b)) : Int32).toInt64))]) rfl ?_
        refine q_reord [4, 0, 1, 2, 3] (by decide : ([4, 0, 1, 2, 3] : List Nat).Perm (List.range 5)) (Rs' := [[(h0, .inr (5, [.ref aO, .ref aY, .ref aN, .int hsn, .ref aT, .ref aK]))], wO, wA, wB, wL]) rfl rfl ?_
        refine q_i2l (v := ((nI (k_ie bx ln sc b 3)) : Int32).toInt64) C dX6_mixedWithBox_61 62 rfl rfl ?_
        refine q_callS (n := 2) (rest := []) (Rr := [[(h0, .inr (5, [.ref aO, .ref aY, .ref aN, .int hsn, .ref aT, .ref aK]))], wO, wA, wB, wL]) C (c_X6_mixed l hZ hI (31 * u + (((nI (k_wn bx ln sc b)) : Int32).toInt64)) (((nI (k_ie bx ln sc b 3)) : Int32).toInt64)) gX6_mixedWithBox_X6_mixed rfl rfl rfl (by decide +kernel) B.1 ⟨Nat.le_of_ble_eq_true rfl, Nat.le_of_ble_eq_true rfl⟩ rfl rfl (Nat.le_of_ble_eq_true rfl) dX6_mixedWithBox_62 ⟨Nat.le_of_ble_eq_true rfl, Nat.le_of_ble_eq_true rfl⟩ [] [0, 1, 2, 3, 4] (by decide : ([] ++ ([0, 1, 2, 3, 4] : List Nat)).Perm (List.range 5)) rfl rfl 65 rfl (fun v0 R0 t0 ht0 hp0 => ?_)
        obtain ⟨rfl, rfl⟩ := hp0
        refine q_eqs (st' := [.long (31 * (31 * u + (((nI (k_wn bx ln sc b)) : Int32).toInt64)) + (((nI (k_ie bx ln sc b 3)) : Int32).toInt64))]) rfl ?_
        refine q_eqR (Rs' := [[(h0, .inr (5, [.ref aO, .ref aY, .ref aN, .int hsn, .ref aT, .ref aK]))], wO, wA, wB, wL]) rfl ?_
        refine q_lstore C dX6_mixedWithBox_65 67 rfl [(4, .long (31 * (31 * u + (((nI (k_wn bx ln sc b)) : Int32).toInt64)) + (((nI (k_ie bx ln sc b 3)) : Int32).toInt64))), (6, .int (nI i)), (0, .ref h0), (1, .long v), (3, .int (nI b))] (by decide) rfl ?_
        refine q_aload_n C dX6_mixedWithBox_67 68 2 rfl rfl ?_
        refine q_get (k := 0) (j := 0) (f := 0) C hinX6 f12 (fun _ h => h) (by decide) rfl dX6_mixedWithBox_68 71 rfl rfl rfl rfl ?_
        obtain rfl := hO
        have hOox2 : k_isO cI aO aB aL aS sc [(aO, .inr (3, [.ref aB, .ref aL, .ref aS, .int (sc 3), .int (sc 5), .int (sc 6), .int (sc 7), .int (sc 8), .int (sc 9), .int (sc 10), .int (sc 11)]))] := rfl
        refine q_getN (k := 1) (j := 0) (f := 0) C hinX4 f111 (fun _ h => h) (by decide) rfl dX6_mixedWithBox_71 74 rfl rfl rfl rfl ?_
        refine q_iload_n C dX6_mixedWithBox_74 75 4 rfl rfl ?_
        refine q_callV (k := 3) (ci := 0) (n := 1) (rest := []) (Rr := [[(h0, .inr (5, [.ref aO, .ref aY, .ref aN, .int hsn, .ref aT, .ref aK]))], [(aO, .inr (3, [.ref aB, .ref aL, .ref aS, .int (sc 3), .int (sc 5), .int (sc 6), .int (sc 7), .int (sc 8), .int (sc 9), .int (sc 10), .int (sc 11)]))], wA, wL]) C rfl (k_isB_recv hB) rfl (c_X0_heightOf l hZ hI aB bx at0 wB hB b (by omega)) gX6_mixedWithBox_X0_heightOf rfl rfl rfl (by decide +kernel) B.1 ⟨Nat.le_of_ble_eq_true rfl, Nat.le_of_ble_eq_true rfl⟩ rfl rfl (Nat.le_of_ble_eq_true rfl) dX6_mixedWithBox_75 ⟨Nat.le_of_ble_eq_true rfl, Nat.le_of_ble_eq_true rfl⟩ [3] [0, 1, 2, 4] (by decide : ([3] ++ ([0, 1, 2, 4] : List Nat)).Perm (List.range 5)) rfl rfl 78 rfl (fun v0 R0 t0 ht0 hp0 => ?_)
        obtain ⟨rfl, rfl⟩ := hp0
        refine q_eqs (st' := [.int (nI ((bx b).length))]) rfl ?_
        refine q_reord [1, 2, 3, 0, 4] (by decide : ([1, 2, 3, 0, 4] : List Nat).Perm (List.range 5)) (Rs' := [[(h0, .inr (5, [.ref aO, .ref aY, .ref aN, .int hsn, .ref aT, .ref aK]))], [(aO, .inr (3, [.ref aB, .ref aL, .ref aS, .int (sc 3), .int (sc 5), .int (sc 6), .int (sc 7), .int (sc 8), .int (sc 9), .int (sc 10), .int (sc 11)]))], wA, wB, wL]) rfl rfl ?_
        have hh75 : (bx b).length ≤ 20 := (hB.2.1 b (by omega)).1
        refine q_istore C dX6_mixedWithBox_78 80 rfl [(6, .int (nI ((bx b).length))), (4, .long (31 * (31 * u + (((nI (k_wn bx ln sc b)) : Int32).toInt64)) + (((nI (k_ie bx ln sc b 3)) : Int32).toInt64))), (0, .ref h0), (1, .long v), (3, .int (nI b))] (by decide) rfl ?_
        refine q_iconst (v := nI 0) C dX6_mixedWithBox_80 81 rfl (by decide) ?_
        refine q_istore C dX6_mixedWithBox_81 83 rfl [(7, .int (nI 0)), (6, .int (nI ((bx b).length))), (4, .long (31 * (31 * u + (((nI (k_wn bx ln sc b)) : Int32).toInt64)) + (((nI (k_ie bx ln sc b 3)) : Int32).toInt64))), (0, .ref h0), (1, .long v), (3, .int (nI b))] (by decide) rfl ?_
        have lp2 : ∀ (kk : Nat) (d : Nat) (u2 : Int64), (bx b).length - d < kk → ∀ (hd : d ≤ (bx b).length), ∀ (hu2 : u2 = k_hf (fun d => nI (k_at (bx b) ((bx b).length - 1 - d))) (31 * (31 * k_hf (k_tb bx at0 sc b) v 7 + (nI (k_wn bx ln sc b)).toInt64) + (nI (k_ie bx ln sc b 3)).toInt64) d), q_V p9 l e9 R s9 m9 args below meth c9 D A 8 Q 0 0 83 [(7, .int (nI d)), (6, .int (nI ((bx b).length))), (4, .long u2), (0, .ref h0), (3, .int (nI b))] [] [[(h0, .inr (5, [.ref aO, .ref aY, .ref aN, .int hsn, .ref aT, .ref aK]))], [(aO, .inr (3, [.ref aB, .ref aL, .ref aS, .int (sc 3), .int (sc 5), .int (sc 6), .int (sc 7), .int (sc 8), .int (sc 9), .int (sc 10), .int (sc 11)]))], wA, wB, wL] := by
          intro kk
          induction kk with
          | zero => intro d u2 hkk; exact absurd hkk (Nat.not_lt_zero _)
          | succ kk ih_lp2 =>
            intro d u2 hkk hd hu2
            refine q_iload C dX6_mixedWithBox_83 85 0 rfl rfl ?_
            refine q_iload C dX6_mixedWithBox_85 87 1 rfl rfl ?_
            refine q_icmp_ge C dX6_mixedWithBox_87 90 117 rfl (by decide) (nI_leI (by omega) (by omega)) (fun h87 => ?_) (fun h87 => ?_)
            · refine q_lload C dX6_mixedWithBox_117 119 2 rfl rfl ?_
              exact q_lret C B dX6_mixedWithBox_119 rfl rfl (fun t0 ht0 => ⟨by rw [hu2, show d = (bx b).length by omega]; rfl, rfl⟩)
            · refine q_lload C dX6_mixedWithBox_90 92 2 rfl rfl ?_
              refine q_aload_n C dX6_mixedWithBox_92 93 3 rfl rfl ?_
              refine q_get (k := 0) (j := 0) (f := 0) C hinX6 f12 (fun _ h => h) (by decide) rfl dX6_mixedWithBox_93 96 rfl rfl rfl rfl ?_
              refine q_getN (k := 1) (j := 0) (f := 0) C hinX4 f111 (fun _ h => h) (by decide) rfl dX6_mixedWithBox_96 99 rfl rfl rfl rfl ?_
              refine q_iload_n C dX6_mixedWithBox_99 100 4 rfl rfl ?_
              refine q_iload C dX6_mixedWithBox_100 102 0 rfl rfl ?_
              refine q_callV (k := 3) (ci := 0) (n := 2) (rest := [.long u2]) (Rr := [[(h0, .inr (5, [.ref aO, .ref aY, .ref aN, .int hsn, .ref aT, .ref aK]))], [(aO, .inr (3, [.ref aB, .ref aL, .ref aS, .int (sc 3), .int (sc 5), .int (sc 6), .int (sc 7), .int (sc 8), .int (sc 9), .int (sc 10), .int (sc 11)]))], wA, wL]) C rfl (k_isB_recv hB) rfl (c_X0_typeAt_s l hZ hI aB bx at0 wB hB b d (by omega) (by omega)) gX6_mixedWithBox_X0_typeAt rfl rfl rfl (by decide +kernel) B.1 ⟨Nat.le_of_ble_eq_true rfl, Nat.le_of_ble_eq_true rfl⟩ rfl rfl (Nat.le_of_ble_eq_true rfl) dX6_mixedWithBox_102 ⟨Nat.le_of_ble_eq_true rfl, Nat.le_of_ble_eq_true rfl⟩ [3] [0, 1, 2, 4] (by decide : ([3] ++ ([0, 1, 2, 4] : List Nat)).Perm (List.range 5)) rfl rfl 105 rfl (fun v0 R0 t0 ht0 hp0 => ?_)
              obtain ⟨rfl, rfl⟩ := hp0
              refine q_eqs (st' := [.int (nI (k_at (bx b) ((bx b).length - 1 - d))), .long u2]) rfl ?_
              refine q_reord [1, 2, 3, 0, 4] (by decide : ([1, 2, 3, 0, 4] : List Nat).Perm (List.range 5)) (Rs' := [[(h0, .inr (5, [.ref aO, .ref aY, .ref aN, .int hsn, .ref aT, .ref aK]))], [(aO, .inr (3, [.ref aB, .ref aL, .ref aS, .int (sc 3), .int (sc 5), .int (sc 6), .int (sc 7), .int (sc 8), .int (sc 9), .int (sc 10), .int (sc 11)]))], wA, wB, wL]) rfl rfl ?_
              have ht102 : k_at (bx b) ((bx b).length - 1 - d) < 12 := k_at_lt (hB.2.1 b (by omega)).2 (by omega)
              refine q_i2l (v := ((nI (k_at (bx b) ((bx b).length - 1 - d))) : Int32).toInt64) C dX6_mixedWithBox_105 106 rfl rfl ?_
              refine q_callS (n := 2) (rest := []) (Rr := [[(h0, .inr (5, [.ref aO, .ref aY, .ref aN, .int hsn, .ref aT, .ref aK]))], [(aO, .inr (3, [.ref aB, .ref aL, .ref aS, .int (sc 3), .int (sc 5), .int (sc 6), .int (sc 7), .int (sc 8), .int (sc 9), .int (sc 10), .int (sc 11)]))], wA, wB, wL]) C (c_X6_mixed l hZ hI u2 (((nI (k_at (bx b) ((bx b).length - 1 - d))) : Int32).toInt64)) gX6_mixedWithBox_X6_mixed rfl rfl rfl (by decide +kernel) B.1 ⟨Nat.le_of_ble_eq_true rfl, Nat.le_of_ble_eq_true rfl⟩ rfl rfl (Nat.le_of_ble_eq_true rfl) dX6_mixedWithBox_106 ⟨Nat.le_of_ble_eq_true rfl, Nat.le_of_ble_eq_true rfl⟩ [] [0, 1, 2, 3, 4] (by decide : ([] ++ ([0, 1, 2, 3, 4] : List Nat)).Perm (List.range 5)) rfl rfl 109 rfl (fun v0 R0 t0 ht0 hp0 => ?_)
              obtain ⟨rfl, rfl⟩ := hp0
              refine q_eqs (st' := [.long (31 * u2 + (((nI (k_at (bx b) ((bx b).length - 1 - d))) : Int32).toInt64))]) rfl ?_
              refine q_eqR (Rs' := [[(h0, .inr (5, [.ref aO, .ref aY, .ref aN, .int hsn, .ref aT, .ref aK]))], [(aO, .inr (3, [.ref aB, .ref aL, .ref aS, .int (sc 3), .int (sc 5), .int (sc 6), .int (sc 7), .int (sc 8), .int (sc 9), .int (sc 10), .int (sc 11)]))], wA, wB, wL]) rfl ?_
              refine q_lstore C dX6_mixedWithBox_109 111 rfl [(4, .long (31 * u2 + (((nI (k_at (bx b) ((bx b).length - 1 - d))) : Int32).toInt64))), (7, .int (nI d)), (6, .int (nI ((bx b).length))), (0, .ref h0), (3, .int (nI b))] (by decide) rfl ?_
              refine q_iinc (v := nI (d + 1)) C dX6_mixedWithBox_111 114 1 rfl rfl (q_ninc1 (by omega)) [(7, .int (nI (d + 1))), (4, .long (31 * u2 + (((nI (k_at (bx b) ((bx b).length - 1 - d))) : Int32).toInt64))), (6, .int (nI ((bx b).length))), (0, .ref h0), (3, .int (nI b))] (by decide) rfl ?_
              refine q_goto C dX6_mixedWithBox_114 83 (by decide) ?_
              refine q_sub (L' := [(7, .int (nI (d + 1))), (6, .int (nI ((bx b).length))), (4, .long (31 * u2 + (((nI (k_at (bx b) ((bx b).length - 1 - d))) : Int32).toInt64))), (0, .ref h0), (3, .int (nI b))]) [0, 2, 1, 3, 4] rfl ?_
              exact ih_lp2 (d + 1) (31 * u2 + (((nI (k_at (bx b) ((bx b).length - 1 - d))) : Int32).toInt64)) (by omega) (by omega) (by rw [hu2]; rfl)
        refine q_sub (L' := [(7, .int (nI 0)), (6, .int (nI ((bx b).length))), (4, .long (31 * (31 * u + (((nI (k_wn bx ln sc b)) : Int32).toInt64)) + (((nI (k_ie bx ln sc b 3)) : Int32).toInt64))), (0, .ref h0), (3, .int (nI b))]) [0, 1, 2, 3, 5] rfl ?_
        exact lp2 _ 0 (31 * (31 * u + (((nI (k_wn bx ln sc b)) : Int32).toInt64)) + (((nI (k_ie bx ln sc b 3)) : Int32).toInt64)) (Nat.lt_succ_self _) (by omega) (by rw [k_hf_0, hu, show i = 7 by omega])
      · refine q_lload C dX6_mixedWithBox_13 15 1 rfl rfl ?_
        refine q_aload_n C dX6_mixedWithBox_15 16 2 rfl rfl ?_
        refine q_iload_n C dX6_mixedWithBox_16 17 4 rfl rfl ?_
        refine q_iload C dX6_mixedWithBox_17 19 0 rfl rfl ?_
        refine q_callV (k := 0) (ci := 5) (n := 2) (rest := [.long u]) (Rr := [wL]) C rfl (k_isX_recv hX) rfl (c_X6_numberOfBox l hZ hI hN h0 aO aY aN hsn aT aK wX hX aB aL aS sc wO hO wA hA bx at0 wB hB b i (by omega) (by omega)) gX6_mixedWithBox_X6_numberOfBox rfl rfl rfl (by decide +kernel) B.1 ⟨Nat.le_of_ble_eq_true rfl, Nat.le_of_ble_eq_true rfl⟩ rfl rfl (Nat.le_of_ble_eq_true rfl) dX6_mixedWithBox_19 ⟨Nat.le_of_ble_eq_true rfl, Nat.le_of_ble_eq_true rfl⟩ [0, 1, 2, 3] [4] (by decide : ([0, 1, 2, 3] ++ ([4] : List Nat)).Perm (List.range 5)) rfl rfl 22 rfl (fun v0 R0 t0 ht0 hp0 => ?_)
        obtain ⟨rfl, rfl⟩ := hp0
        refine q_eqs (st' := [.int (k_tb bx at0 sc b i), .long u]) rfl ?_
        refine q_eqR (Rs' := [wX, wO, wA, wB, wL]) rfl ?_
        refine q_i2l (v := ((k_tb bx at0 sc b i) : Int32).toInt64) C dX6_mixedWithBox_22 23 rfl rfl ?_
        refine q_callS (n := 2) (rest := []) (Rr := [wX, wO, wA, wB, wL]) C (c_X6_mixed l hZ hI u (((k_tb bx at0 sc b i) : Int32).toInt64)) gX6_mixedWithBox_X6_mixed rfl rfl rfl (by decide +kernel) B.1 ⟨Nat.le_of_ble_eq_true rfl, Nat.le_of_ble_eq_true rfl⟩ rfl rfl (Nat.le_of_ble_eq_true rfl) dX6_mixedWithBox_23 ⟨Nat.le_of_ble_eq_true rfl, Nat.le_of_ble_eq_true rfl⟩ [] [0, 1, 2, 3, 4] (by decide : ([] ++ ([0, 1, 2, 3, 4] : List Nat)).Perm (List.range 5)) rfl rfl 26 rfl (fun v0 R0 t0 ht0 hp0 => ?_)
        obtain ⟨rfl, rfl⟩ := hp0
        refine q_eqs (st' := [.long (31 * u + (((k_tb bx at0 sc b i) : Int32).toInt64))]) rfl ?_
        refine q_eqR (Rs' := [wX, wO, wA, wB, wL]) rfl ?_
        refine q_lstore C dX6_mixedWithBox_26 28 rfl [(4, .long (31 * u + (((k_tb bx at0 sc b i) : Int32).toInt64))), (6, .int (nI i)), (0, .ref h0), (1, .long v), (3, .int (nI b))] (by decide) rfl ?_
        refine q_iinc (v := nI (i + 1)) C dX6_mixedWithBox_28 31 1 rfl rfl (q_ninc1 (by omega)) [(6, .int (nI (i + 1))), (4, .long (31 * u + (((k_tb bx at0 sc b i) : Int32).toInt64))), (0, .ref h0), (1, .long v), (3, .int (nI b))] (by decide) rfl ?_
        refine q_goto C dX6_mixedWithBox_31 6 (by decide) ?_
        refine q_sub (L' := [(6, .int (nI (i + 1))), (4, .long (31 * u + (((k_tb bx at0 sc b i) : Int32).toInt64))), (0, .ref h0), (1, .long v), (3, .int (nI b))]) [0, 1, 2, 3, 4] rfl ?_
        exact ih_lp (i + 1) (31 * u + (((k_tb bx at0 sc b i) : Int32).toInt64)) (by omega) (by omega) (by rw [hu]; rfl)
  refine q_sub (L' := [(6, .int (nI 0)), (4, .long v), (0, .ref h0), (1, .long v), (3, .int (nI b))]) [0, 1, 2, 3, 4] rfl ?_
  exact lp _ 0 v (Nat.lt_succ_self _) (by omega) rfl

set_option maxHeartbeats 400000 in
set_option maxRecDepth 100000 in
theorem c_X6_mixedWithLine (l : Launch) {D : va_G} {tys : List (ClassId × FieldType)} {Z : (Nat → Prop) → State → Heap → Prop} (hZ : q_St Z) {cI : ClassId} (hI : tys[0]? = some (cI, .int)) (hN : q_Ns Z) (h0 : Nat) (aO : Nat) (aY : Nat) (aN : Nat) (hsn : Int32) (aT : Nat) (aK : Nat) (wX : va_W) (hX : k_isX cI h0 aO aY aN hsn aT aK wX) (aB : Nat) (aL : Nat) (aS : Nat) (sc : Nat → Int32) (wO : va_W) (hO : k_isO cI aO aB aL aS sc wO) (wA : va_W) (hA : k_isA cI aS sc wA) (bx : k_Bx) (at0 : Nat) (wB : va_W) (hB : k_isB cI aB bx at0 wB) (ln : List (Nat × Nat)) (wL : va_W) (hL : k_isL cI aL ln wL) (v : Int64) : q_Ct l D tys Z yX6_mixedWithLine wsX6_mixedWithLine ({ frames := 5, cells := 0, slots := 0, locals := 162 } : Room) 0 0 [.ref h0, .long v] [wX, wO, wA, wB, wL] (fun v0 R0 _ => v0 = some (.long (k_hl bx ln sc v)) ∧ R0 = [wX, wO, wA, wB, wL]) := by
  have hcI := hI
  refine q_ct (cc := cX6_mixedWithLine) (maxL := 7) (ret := (some .long)) (own := RX6) (by decide) rfl hZ (Nat.le_of_ble_eq_true rfl) rfl ?_
  intro p9 e9 R s9 m9 args below meth c9 A Q C B
  have hts := C.2.2.2.2.1
  have hinX6 : ∀ w ∈ u_ws RX6 TX6 6, w ∈ wsX6_mixedWithLine := by decide +kernel
  have f12 := hts (.fieldLink RX6 12 "SortCases" "state" "LSortCases$State;") (by decide +kernel)
  have hinX4 : ∀ w ∈ u_ws RX4 TX4 11, w ∈ wsX6_mixedWithLine := by decide +kernel
  have f79 := q_nsb hN C (by decide +kernel : Cond.fieldLinkNest "SortCases" 79 "SortCases$State" "line" "LSortCases$Line;" "SortCases" ∈ q_nest) rfl
  have hinX2 : ∀ w ∈ u_ws RX2 TX2 3, w ∈ wsX6_mixedWithLine := by decide +kernel
  have f191 := q_nsb hN C (by decide +kernel : Cond.fieldLinkNest "SortCases" 191 "SortCases$Line" "length" "I" "SortCases" ∈ q_nest) rfl
  refine q_eqL (L' := [(0, .ref h0), (1, .long v)]) rfl ?_
  have hll := hL.1.1
  refine q_lload_n C dX6_mixedWithLine_0 1 1 rfl rfl ?_
  refine q_lstore_n C dX6_mixedWithLine_1 2 rfl [(3, .long v), (0, .ref h0), (1, .long v)] (by decide) rfl ?_
  refine q_iconst (v := nI 0) C dX6_mixedWithLine_2 3 rfl (by decide) ?_
  refine q_istore C dX6_mixedWithLine_3 5 rfl [(5, .int (nI 0)), (3, .long v), (0, .ref h0), (1, .long v)] (by decide) rfl ?_
  have lp : ∀ (kk : Nat) (k : Nat) (u : Int64), ln.length - k < kk → ∀ (hk : k ≤ ln.length), ∀ (hu : u = k_hf (fun j => k_tp bx ln sc (j / 4) (j % 4)) v (4 * k)), q_V p9 l e9 R s9 m9 args below meth c9 D A 7 Q 0 0 5 [(5, .int (nI k)), (3, .long u), (0, .ref h0), (1, .long v)] [] [wX, wO, wA, wB, wL] := by
    intro kk
    induction kk with
    | zero => intro k u hkk; exact absurd hkk (Nat.not_lt_zero _)
    | succ kk ih_lp =>
      intro k u hkk hk hu
      refine q_iload C dX6_mixedWithLine_5 7 0 rfl rfl ?_
      refine q_aload_n C dX6_mixedWithLine_7 8 2 rfl rfl ?_
      obtain rfl := hX
      have hXox1 : k_isX cI h0 aO aY aN hsn aT aK [(h0, .inr (5, [.ref aO, .ref aY, .ref aN, .int hsn, .ref aT, .ref aK]))] := rfl
      refine q_get (k := 0) (j := 0) (f := 0) C hinX6 f12 (fun _ h => h) (by decide) rfl dX6_mixedWithLine_8 11 rfl rfl rfl rfl ?_
      obtain rfl := hO
      have hOox2 : k_isO cI aO aB aL aS sc [(aO, .inr (3, [.ref aB, .ref aL, .ref aS, .int (sc 3), .int (sc 5), .int (sc 6), .int (sc 7), .int (sc 8), .int (sc 9), .int (sc 10), .int (sc 11)]))] := rfl
      refine q_getN (k := 1) (j := 0) (f := 1) C hinX4 f79 (fun _ h => h) (by decide) rfl dX6_mixedWithLine_11 14 rfl rfl rfl rfl ?_
      obtain ⟨hlokx3, hsx3, hlx3, f1x3, f2x3, hrelx3, rfl⟩ := hL
      have hlenx3 := hlokx3.1
      have hLx3 : k_isL cI aL ln [(aL, .inr (2, [.ref hsx3, .ref hlx3, .int (nI ln.length)])), (hsx3, .inl (cI, 72, .inl f1x3)), (hlx3, .inl (cI, 72, .inl f2x3))] := ⟨hlokx3, hsx3, hlx3, f1x3, f2x3, hrelx3, rfl⟩
      refine q_getN (k := 4) (j := 0) (f := 2) C hinX2 f191 (fun _ h => h) (by decide) rfl dX6_mixedWithLine_14 17 rfl rfl rfl rfl ?_
      refine q_icmp_ge C dX6_mixedWithLine_17 20 55 rfl (by decide) (nI_leI (by omega) (by omega)) (fun h17 => ?_) (fun h17 => ?_)
      · refine q_aload_n C dX6_mixedWithLine_55 56 2 rfl rfl ?_
        refine q_get (k := 0) (j := 0) (f := 0) C hinX6 f12 (fun _ h => h) (by decide) rfl dX6_mixedWithLine_56 59 rfl rfl rfl rfl ?_
        refine q_getN (k := 1) (j := 0) (f := 1) C hinX4 f79 (fun _ h => h) (by decide) rfl dX6_mixedWithLine_59 62 rfl rfl rfl rfl ?_
        refine q_getN (k := 4) (j := 0) (f := 2) C hinX2 f191 (fun _ h => h) (by decide) rfl dX6_mixedWithLine_62 65 rfl rfl rfl rfl ?_
        refine q_aload_n C dX6_mixedWithLine_65 66 2 rfl rfl ?_
        refine q_get (k := 0) (j := 0) (f := 0) C hinX6 f12 (fun _ h => h) (by decide) rfl dX6_mixedWithLine_66 69 rfl rfl rfl rfl ?_
        refine q_getN (k := 1) (j := 0) (f := 1) C hinX4 f79 (fun _ h => h) (by decide) rfl dX6_mixedWithLine_69 72 rfl rfl rfl rfl ?_
        refine q_callV (k := 4) (ci := 2) (n := 0) (rest := [.int (nI ln.length)]) (Rr := [[(h0, .inr (5, [.ref aO, .ref aY, .ref aN, .int hsn, .ref aT, .ref aK]))], [(aO, .inr (3, [.ref aB, .ref aL, .ref aS, .int (sc 3), .int (sc 5), .int (sc 6), .int (sc 7), .int (sc 8), .int (sc 9), .int (sc 10), .int (sc 11)]))], wA, wB]) C rfl (k_isL_recv hLx3) rfl (c_X2_errors l hZ hI aL ln ([(aL, .inr (2, [.ref hsx3, .ref hlx3, .int (nI ln.length)])), (hsx3, .inl (cI, 72, .inl f1x3)), (hlx3, .inl (cI, 72, .inl f2x3))]) hLx3) gX6_mixedWithLine_X2_errors rfl rfl rfl (by decide +kernel) B.1 ⟨Nat.le_of_ble_eq_true rfl, Nat.le_of_ble_eq_true rfl⟩ rfl rfl (Nat.le_of_ble_eq_true rfl) dX6_mixedWithLine_72 ⟨Nat.le_of_ble_eq_true rfl, Nat.le_of_ble_eq_true rfl⟩ [4] [0, 1, 2, 3] (by decide : ([4] ++ ([0, 1, 2, 3] : List Nat)).Perm (List.range 5)) rfl rfl 75 rfl (fun v0 R0 t0 ht0 hp0 => ?_)
        obtain ⟨rfl, rfl⟩ := hp0
        refine q_eqs (st' := [.int (nI (k_er ln)), .int (nI ln.length)]) rfl ?_
        refine q_reord [1, 2, 3, 4, 0] (by decide : ([1, 2, 3, 4, 0] : List Nat).Perm (List.range 5)) (Rs' := [[(h0, .inr (5, [.ref aO, .ref aY, .ref aN, .int hsn, .ref aT, .ref aK]))], [(aO, .inr (3, [.ref aB, .ref aL, .ref aS, .int (sc 3), .int (sc 5), .int (sc 6), .int (sc 7), .int (sc 8), .int (sc 9), .int (sc 10), .int (sc 11)]))], wA, wB, [(aL, .inr (2, [.ref hsx3, .ref hlx3, .int (nI ln.length)])), (hsx3, .inl (cI, 72, .inl f1x3)), (hlx3, .inl (cI, 72, .inl f2x3))]]) rfl rfl ?_
        have hc72 : k_er ln ≤ (ln).length := k_er_le _
        refine q_iadd (v := nI (ln.length + k_er ln)) C dX6_mixedWithLine_75 76 rfl (q_nadd (by omega)) ?_
        refine q_istore C dX6_mixedWithLine_76 78 rfl [(5, .int (nI (ln.length + k_er ln))), (3, .long u), (0, .ref h0), (1, .long v)] (by decide) rfl ?_
        refine q_iconst (v := nI 0) C dX6_mixedWithLine_78 79 rfl (by decide) ?_
        refine q_istore C dX6_mixedWithLine_79 81 rfl [(6, .int (nI 0)), (5, .int (nI (ln.length + k_er ln))), (3, .long u), (0, .ref h0), (1, .long v)] (by decide) rfl ?_
        have lp3 : ∀ (kk : Nat) (q : Nat) (u3 : Int64), ln.length + k_er ln - q < kk → ∀ (hq : q ≤ ln.length + k_er ln), ∀ (hu3 : u3 = k_hf (fun j => k_ch ln j) (k_hp bx ln sc v (4 * ln.length)) q), q_V p9 l e9 R s9 m9 args below meth c9 D A 7 Q 0 0 81 [(6, .int (nI q)), (5, .int (nI (ln.length + k_er ln))), (3, .long u3), (0, .ref h0)] [] [[(h0, .inr (5, [.ref aO, .ref aY, .ref aN, .int hsn, .ref aT, .ref aK]))], [(aO, .inr (3, [.ref aB, .ref aL, .ref aS, .int (sc 3), .int (sc 5), .int (sc 6), .int (sc 7), .int (sc 8), .int (sc 9), .int (sc 10), .int (sc 11)]))], wA, wB, [(aL, .inr (2, [.ref hsx3, .ref hlx3, .int (nI ln.length)])), (hsx3, .inl (cI, 72, .inl f1x3)), (hlx3, .inl (cI, 72, .inl f2x3))]] := by
          intro kk
          induction kk with
          | zero => intro q u3 hkk; exact absurd hkk (Nat.not_lt_zero _)
          | succ kk ih_lp3 =>
            intro q u3 hkk hq hu3
            refine q_iload C dX6_mixedWithLine_81 83 0 rfl rfl ?_
            refine q_iload C dX6_mixedWithLine_83 85 1 rfl rfl ?_
            refine q_icmp_ge C dX6_mixedWithLine_85 88 112 rfl (by decide) (nI_leI (by omega) (by omega)) (fun h85 => ?_) (fun h85 => ?_)
            · refine q_lload_n C dX6_mixedWithLine_112 113 2 rfl rfl ?_
              exact q_lret C B dX6_mixedWithLine_113 rfl rfl (fun t0 ht0 => ⟨by rw [hu3, show q = ln.length + k_er ln by omega]; rfl, rfl⟩)
            · refine q_lload_n C dX6_mixedWithLine_88 89 2 rfl rfl ?_
              refine q_aload_n C dX6_mixedWithLine_89 90 3 rfl rfl ?_
              refine q_get (k := 0) (j := 0) (f := 0) C hinX6 f12 (fun _ h => h) (by decide) rfl dX6_mixedWithLine_90 93 rfl rfl rfl rfl ?_
              refine q_getN (k := 1) (j := 0) (f := 1) C hinX4 f79 (fun _ h => h) (by decide) rfl dX6_mixedWithLine_93 96 rfl rfl rfl rfl ?_
              refine q_iload C dX6_mixedWithLine_96 98 0 rfl rfl ?_
              refine q_callV (k := 4) (ci := 2) (n := 1) (rest := [.long u3]) (Rr := [[(h0, .inr (5, [.ref aO, .ref aY, .ref aN, .int hsn, .ref aT, .ref aK]))], [(aO, .inr (3, [.ref aB, .ref aL, .ref aS, .int (sc 3), .int (sc 5), .int (sc 6), .int (sc 7), .int (sc 8), .int (sc 9), .int (sc 10), .int (sc 11)]))], wA, wB]) C rfl (k_isL_recv hLx3) rfl (c_X2_characterAt l hZ hI aL ln ([(aL, .inr (2, [.ref hsx3, .ref hlx3, .int (nI ln.length)])), (hsx3, .inl (cI, 72, .inl f1x3)), (hlx3, .inl (cI, 72, .inl f2x3))]) hLx3 q (by omega)) gX6_mixedWithLine_X2_characterAt rfl rfl rfl (by decide +kernel) B.1 ⟨Nat.le_of_ble_eq_true rfl, Nat.le_of_ble_eq_true rfl⟩ rfl rfl (Nat.le_of_ble_eq_true rfl) dX6_mixedWithLine_98 ⟨Nat.le_of_ble_eq_true rfl, Nat.le_of_ble_eq_true rfl⟩ [4] [0, 1, 2, 3] (by decide : ([4] ++ ([0, 1, 2, 3] : List Nat)).Perm (List.range 5)) rfl rfl 101 rfl (fun v0 R0 t0 ht0 hp0 => ?_)
              obtain ⟨rfl, rfl⟩ := hp0
              refine q_eqs (st' := [.int (k_ch ln q), .long u3]) rfl ?_
              refine q_reord [1, 2, 3, 4, 0] (by decide : ([1, 2, 3, 4, 0] : List Nat).Perm (List.range 5)) (Rs' := [[(h0, .inr (5, [.ref aO, .ref aY, .ref aN, .int hsn, .ref aT, .ref aK]))], [(aO, .inr (3, [.ref aB, .ref aL, .ref aS, .int (sc 3), .int (sc 5), .int (sc 6), .int (sc 7), .int (sc 8), .int (sc 9), .int (sc 10), .int (sc 11)]))], wA, wB, [(aL, .inr (2, [.ref hsx3, .ref hlx3, .int (nI ln.length)])), (hsx3, .inl (cI, 72, .inl f1x3)), (hlx3, .inl (cI, 72, .inl f2x3))]]) rfl rfl ?_
              refine q_i2l (v := ((k_ch ln q) : Int32).toInt64) C dX6_mixedWithLine_101 102 rfl rfl ?_
              refine q_callS (n := 2) (rest := []) (Rr := [[(h0, .inr (5, [.ref aO, .ref aY, .ref aN, .int hsn, .ref aT, .ref aK]))], [(aO, .inr (3, [.ref aB, .ref aL, .ref aS, .int (sc 3), .int (sc 5), .int (sc 6), .int (sc 7), .int (sc 8), .int (sc 9), .int (sc 10), .int (sc 11)]))], wA, wB, [(aL, .inr (2, [.ref hsx3, .ref hlx3, .int (nI ln.length)])), (hsx3, .inl (cI, 72, .inl f1x3)), (hlx3, .inl (cI, 72, .inl f2x3))]]) C (c_X6_mixed l hZ hI u3 (((k_ch ln q) : Int32).toInt64)) gX6_mixedWithLine_X6_mixed rfl rfl rfl (by decide +kernel) B.1 ⟨Nat.le_of_ble_eq_true rfl, Nat.le_of_ble_eq_true rfl⟩ rfl rfl (Nat.le_of_ble_eq_true rfl) dX6_mixedWithLine_102 ⟨Nat.le_of_ble_eq_true rfl, Nat.le_of_ble_eq_true rfl⟩ [] [0, 1, 2, 3, 4] (by decide : ([] ++ ([0, 1, 2, 3, 4] : List Nat)).Perm (List.range 5)) rfl rfl 105 rfl (fun v0 R0 t0 ht0 hp0 => ?_)
              obtain ⟨rfl, rfl⟩ := hp0
              refine q_eqs (st' := [.long (31 * u3 + (((k_ch ln q) : Int32).toInt64))]) rfl ?_
              refine q_eqR (Rs' := [[(h0, .inr (5, [.ref aO, .ref aY, .ref aN, .int hsn, .ref aT, .ref aK]))], [(aO, .inr (3, [.ref aB, .ref aL, .ref aS, .int (sc 3), .int (sc 5), .int (sc 6), .int (sc 7), .int (sc 8), .int (sc 9), .int (sc 10), .int (sc 11)]))], wA, wB, [(aL, .inr (2, [.ref hsx3, .ref hlx3, .int (nI ln.length)])), (hsx3, .inl (cI, 72, .inl f1x3)), (hlx3, .inl (cI, 72, .inl f2x3))]]) rfl ?_
              refine q_lstore_n C dX6_mixedWithLine_105 106 rfl [(3, .long (31 * u3 + (((k_ch ln q) : Int32).toInt64))), (6, .int (nI q)), (5, .int (nI (ln.length + k_er ln))), (0, .ref h0)] (by decide) rfl ?_
              refine q_iinc (v := nI (q + 1)) C dX6_mixedWithLine_106 109 1 rfl rfl (q_ninc1 (by omega)) [(6, .int (nI (q + 1))), (3, .long (31 * u3 + (((k_ch ln q) : Int32).toInt64))), (5, .int (nI (ln.length + k_er ln))), (0, .ref h0)] (by decide) rfl ?_
              refine q_goto C dX6_mixedWithLine_109 81 (by decide) ?_
              refine q_sub (L' := [(6, .int (nI (q + 1))), (5, .int (nI (ln.length + k_er ln))), (3, .long (31 * u3 + (((k_ch ln q) : Int32).toInt64))), (0, .ref h0)]) [0, 2, 1, 3] rfl ?_
              exact ih_lp3 (q + 1) (31 * u3 + (((k_ch ln q) : Int32).toInt64)) (by omega) (by omega) (by rw [hu3]; rfl)
        refine q_sub (L' := [(6, .int (nI 0)), (5, .int (nI (ln.length + k_er ln))), (3, .long u), (0, .ref h0)]) [0, 1, 2, 3] rfl ?_
        exact lp3 _ 0 u (Nat.lt_succ_self _) (by omega) (by rw [k_hf_0, hu, show k = ln.length by omega]; rfl)
      · refine q_iconst (v := nI 0) C dX6_mixedWithLine_20 21 rfl (by decide) ?_
        refine q_istore C dX6_mixedWithLine_21 23 rfl [(6, .int (nI 0)), (5, .int (nI k)), (3, .long u), (0, .ref h0), (1, .long v)] (by decide) rfl ?_
        have lp2 : ∀ (kk : Nat) (i : Nat) (u2 : Int64), 4 - i < kk → ∀ (hi : i ≤ 4), ∀ (hu2 : u2 = k_hf (fun j => k_tp bx ln sc (j / 4) (j % 4)) v (4 * k + i)), q_V p9 l e9 R s9 m9 args below meth c9 D A 7 Q 0 0 23 [(6, .int (nI i)), (5, .int (nI k)), (3, .long u2), (0, .ref h0), (1, .long v)] [] [[(h0, .inr (5, [.ref aO, .ref aY, .ref aN, .int hsn, .ref aT, .ref aK]))], [(aO, .inr (3, [.ref aB, .ref aL, .ref aS, .int (sc 3), .int (sc 5), .int (sc 6), .int (sc 7), .int (sc 8), .int (sc 9), .int (sc 10), .int (sc 11)]))], wA, wB, [(aL, .inr (2, [.ref hsx3, .ref hlx3, .int (nI ln.length)])), (hsx3, .inl (cI, 72, .inl f1x3)), (hlx3, .inl (cI, 72, .inl f2x3))]] := by
          intro kk
          induction kk with
          | zero => intro i u2 hkk; exact absurd hkk (Nat.not_lt_zero _)
          | succ kk ih_lp2 =>
            intro i u2 hkk hi hu2
            refine q_iload C dX6_mixedWithLine_23 25 0 rfl rfl ?_
            refine q_iconst (v := nI 4) C dX6_mixedWithLine_25 26 rfl (by decide) ?_
            refine q_icmp_ge C dX6_mixedWithLine_26 29 49 rfl (by decide) (nI_leI (by omega) (by omega)) (fun h26 => ?_) (fun h26 => ?_)
            · refine q_iinc (v := nI (k + 1)) C dX6_mixedWithLine_49 52 1 rfl rfl (q_ninc1 (by omega)) [(5, .int (nI (k + 1))), (6, .int (nI i)), (3, .long u2), (0, .ref h0), (1, .long v)] (by decide) rfl ?_
              refine q_goto C dX6_mixedWithLine_52 5 (by decide) ?_
              refine q_sub (L' := [(5, .int (nI (k + 1))), (3, .long u2), (0, .ref h0), (1, .long v)]) [0, 2, 3, 4] rfl ?_
              exact ih_lp (k + 1) u2 (by omega) (by omega) (by rw [hu2, show i = 4 by omega, show 4 * k + 4 = 4 * (k + 1) by omega])
            · refine q_lload_n C dX6_mixedWithLine_29 30 2 rfl rfl ?_
              refine q_aload_n C dX6_mixedWithLine_30 31 3 rfl rfl ?_
              refine q_iload C dX6_mixedWithLine_31 33 1 rfl rfl ?_
              refine q_iload C dX6_mixedWithLine_33 35 0 rfl rfl ?_
              refine q_callV (k := 0) (ci := 5) (n := 2) (rest := [.long u2]) (Rr := []) C rfl (k_isX_recv hXox1) rfl (c_X6_numberOfPlace l hZ hI hN h0 aO aY aN hsn aT aK ([(h0, .inr (5, [.ref aO, .ref aY, .ref aN, .int hsn, .ref aT, .ref aK]))]) hXox1 aB aL aS sc ([(aO, .inr (3, [.ref aB, .ref aL, .ref aS, .int (sc 3), .int (sc 5), .int (sc 6), .int (sc 7), .int (sc 8), .int (sc 9), .int (sc 10), .int (sc 11)]))]) hOox2 wA hA bx at0 wB hB ln ([(aL, .inr (2, [.ref hsx3, .ref hlx3, .int (nI ln.length)])), (hsx3, .inl (cI, 72, .inl f1x3)), (hlx3, .inl (cI, 72, .inl f2x3))]) hLx3 k i (by omega) (by omega)) gX6_mixedWithLine_X6_numberOfPlace rfl rfl rfl (by decide +kernel) B.1 ⟨Nat.le_of_ble_eq_true rfl, Nat.le_of_ble_eq_true rfl⟩ rfl rfl (Nat.le_of_ble_eq_true rfl) dX6_mixedWithLine_35 ⟨Nat.le_of_ble_eq_true rfl, Nat.le_of_ble_eq_true rfl⟩ [0, 1, 2, 3, 4] [] (by decide : ([0, 1, 2, 3, 4] ++ ([] : List Nat)).Perm (List.range 5)) rfl rfl 38 rfl (fun v0 R0 t0 ht0 hp0 => ?_)
              obtain ⟨rfl, rfl⟩ := hp0
              refine q_eqs (st' := [.int (k_tp bx ln sc k i), .long u2]) rfl ?_
              refine q_eqR (Rs' := [[(h0, .inr (5, [.ref aO, .ref aY, .ref aN, .int hsn, .ref aT, .ref aK]))], [(aO, .inr (3, [.ref aB, .ref aL, .ref aS, .int (sc 3), .int (sc 5), .int (sc 6), .int (sc 7), .int (sc 8), .int (sc 9), .int (sc 10), .int (sc 11)]))], wA, wB, [(aL, .inr (2, [.ref hsx3, .ref hlx3, .int (nI ln.length)])), (hsx3, .inl (cI, 72, .inl f1x3)), (hlx3, .inl (cI, 72, .inl f2x3))]]) rfl ?_
              refine q_i2l (v := ((k_tp bx ln sc k i) : Int32).toInt64) C dX6_mixedWithLine_38 39 rfl rfl ?_
              refine q_callS (n := 2) (rest := []) (Rr := [[(h0, .inr (5, [.ref aO, .ref aY, .ref aN, .int hsn, .ref aT, .ref aK]))], [(aO, .inr (3, [.ref aB, .ref aL, .ref aS, .int (sc 3), .int (sc 5), .int (sc 6), .int (sc 7), .int (sc 8), .int (sc 9), .int (sc 10), .int (sc 11)]))], wA, wB, [(aL, .inr (2, [.ref hsx3, .ref hlx3, .int (nI ln.length)])), (hsx3, .inl (cI, 72, .inl f1x3)), (hlx3, .inl (cI, 72, .inl f2x3))]]) C (c_X6_mixed l hZ hI u2 (((k_tp bx ln sc k i) : Int32).toInt64)) gX6_mixedWithLine_X6_mixed rfl rfl rfl (by decide +kernel) B.1 ⟨Nat.le_of_ble_eq_true rfl, Nat.le_of_ble_eq_true rfl⟩ rfl rfl (Nat.le_of_ble_eq_true rfl) dX6_mixedWithLine_39 ⟨Nat.le_of_ble_eq_true rfl, Nat.le_of_ble_eq_true rfl⟩ [] [0, 1, 2, 3, 4] (by decide : ([] ++ ([0, 1, 2, 3, 4] : List Nat)).Perm (List.range 5)) rfl rfl 42 rfl (fun v0 R0 t0 ht0 hp0 => ?_)
              obtain ⟨rfl, rfl⟩ := hp0
              refine q_eqs (st' := [.long (31 * u2 + (((k_tp bx ln sc k i) : Int32).toInt64))]) rfl ?_
              refine q_eqR (Rs' := [[(h0, .inr (5, [.ref aO, .ref aY, .ref aN, .int hsn, .ref aT, .ref aK]))], [(aO, .inr (3, [.ref aB, .ref aL, .ref aS, .int (sc 3), .int (sc 5), .int (sc 6), .int (sc 7), .int (sc 8), .int (sc 9), .int (sc 10), .int (sc 11)]))], wA, wB, [(aL, .inr (2, [.ref hsx3, .ref hlx3, .int (nI ln.length)])), (hsx3, .inl (cI, 72, .inl f1x3)), (hlx3, .inl (cI, 72, .inl f2x3))]]) rfl ?_
              refine q_lstore_n C dX6_mixedWithLine_42 43 rfl [(3, .long (31 * u2 + (((k_tp bx ln sc k i) : Int32).toInt64))), (6, .int (nI i)), (5, .int (nI k)), (0, .ref h0), (1, .long v)] (by decide) rfl ?_
              refine q_iinc (v := nI (i + 1)) C dX6_mixedWithLine_43 46 1 rfl rfl (q_ninc1 (by omega)) [(6, .int (nI (i + 1))), (3, .long (31 * u2 + (((k_tp bx ln sc k i) : Int32).toInt64))), (5, .int (nI k)), (0, .ref h0), (1, .long v)] (by decide) rfl ?_
              refine q_goto C dX6_mixedWithLine_46 23 (by decide) ?_
              refine q_sub (L' := [(6, .int (nI (i + 1))), (5, .int (nI k)), (3, .long (31 * u2 + (((k_tp bx ln sc k i) : Int32).toInt64))), (0, .ref h0), (1, .long v)]) [0, 2, 1, 3, 4] rfl ?_
              exact ih_lp2 (i + 1) (31 * u2 + (((k_tp bx ln sc k i) : Int32).toInt64)) (by omega) (by omega) (by rw [show 4 * k + (i + 1) = 4 * k + i + 1 by omega, k_hf_s, hu2, show (4 * k + i) / 4 = k by omega, show (4 * k + i) % 4 = i by omega])
        refine q_sub (L' := [(6, .int (nI 0)), (5, .int (nI k)), (3, .long u), (0, .ref h0), (1, .long v)]) [0, 1, 2, 3, 4] rfl ?_
        exact lp2 _ 0 u (Nat.lt_succ_self _) (by omega) hu
  refine q_sub (L' := [(5, .int (nI 0)), (3, .long v), (0, .ref h0), (1, .long v)]) [0, 1, 2, 3] rfl ?_
  exact lp _ 0 v (Nat.lt_succ_self _) (by omega) rfl
