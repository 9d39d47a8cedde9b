set_option maxHeartbeats 4000000 in
set_option maxRecDepth 100000 in
theorem c_X2_has (l : Launch) {D : va_G} {tys : List (ClassId × FieldType)} {Z : (Nat → Prop) → State → Heap → Prop} (hZ : q_St Z) {cI : ClassId} (hI : tys[0]? = some (cI, .int)) (h0 : Nat) (ln : List (Nat × Nat)) (w : va_W) (h : k_isL cI h0 ln w) (p : Int32) : q_Ct l D tys Z yX2_has wsX2_has ({ frames := 1, cells := 0, slots := 0, locals := 42 } : Room) 0 0 [.ref h0, .int p] [w] (fun v0 R0 _ => v0 = some (.int (q_b (k_has ln p))) ∧ R0 = [w]) := by
  have hcI := hI
  refine q_ct (cc := cX2_has) (maxL := 2) (ret := (some .boolean)) (own := RX2) (by decide) rfl hZ (Nat.le_of_ble_eq_true rfl) rfl ?_
  intro p9 e9 R s9 m9 args below meth c9 A Q C B
  have hts := C.2.2.2.2.1
  have hinX2 : ∀ w ∈ u_ws RX2 TX2 3, w ∈ wsX2_has := by decide +kernel
  have f18 := hts (.fieldLink RX2 18 "SortCases$Line" "length" "I") (by decide +kernel)
  refine q_eqL (L' := [(0, .ref h0), (1, .int p)]) rfl ?_
  obtain ⟨hlok, hs, hl, f1, f2, hrel, rfl⟩ := h
  have hlen := hlok.1
  have hL : k_isL cI h0 ln [(h0, .inr (2, [.ref hs, .ref hl, .int (nI ln.length)])), (hs, .inl (cI, 72, .inl f1)), (hl, .inl (cI, 72, .inl f2))] := ⟨hlok, hs, hl, f1, f2, hrel, rfl⟩
  refine q_iload_n C dX2_has_0 1 1 rfl rfl ?_
  refine q_if_lt C dX2_has_1 4 16 rfl (by decide) Iff.rfl (fun h1 => ?_) (fun h1 => ?_)
  · refine q_iconst (v := nI 0) C dX2_has_16 17 rfl (by decide) ?_
    exact q_zret C B (by decide) dX2_has_17 rfl rfl (fun t0 ht0 => ⟨by rw [show k_has ln p = false from decide_eq_false (fun z => absurd z.1 (Int32.not_le.mpr h1))]; rfl, rfl⟩)
  · refine q_iload_n C dX2_has_4 5 1 rfl rfl ?_
    refine q_aload_n C dX2_has_5 6 0 rfl rfl ?_
    refine q_get (k := 0) (j := 0) (f := 2) C hinX2 f18 (fun _ h => h) (by decide) rfl dX2_has_6 9 rfl rfl rfl rfl ?_
    refine q_icmp_ge C dX2_has_9 12 16 rfl (by decide) Iff.rfl (fun h9 => ?_) (fun h9 => ?_)
    · refine q_iconst (v := nI 0) C dX2_has_16 17 rfl (by decide) ?_
      exact q_zret C B (by decide) dX2_has_17 rfl rfl (fun t0 ht0 => ⟨by rw [show k_has ln p = false from decide_eq_false (fun z => absurd h9 (Int32.not_le.mpr z.2))]; rfl, rfl⟩)
    · refine q_iconst (v := nI 1) C dX2_has_12 13 rfl (by decide) ?_
      refine q_goto C dX2_has_13 17 (by decide) ?_
      exact q_zret C B (by decide) dX2_has_17 rfl rfl (fun t0 ht0 => ⟨by rw [show k_has ln p = true from decide_eq_true ⟨Int32.not_lt.mp h1, Int32.not_le.mp h9⟩]; rfl, rfl⟩)

set_option maxHeartbeats 4000000 in
set_option maxRecDepth 100000 in
theorem c_X2_add (l : Launch) {D : va_G} {tys : List (ClassId × FieldType)} {Z : (Nat → Prop) → State → Heap → Prop} (hZ : q_St Z) {cI : ClassId} (hI : tys[0]? = some (cI, .int)) (h0 : Nat) (ln : List (Nat × Nat)) (w : va_W) (h : k_isL cI h0 ln w) (x : Nat) (c : Nat) (hl40 : ln.length < 40) (hx : x < 12) (hc : c < 12) : q_Ct l D tys Z yX2_add wsX2_add ({ frames := 1, cells := 0, slots := 0, locals := 42 } : Room) 0 0 [.ref h0, .int (nI x), .int (nI c)] [w] (fun v0 R0 _ => v0 = none ∧ ∃ w', k_isL cI h0 (ln ++ [(x, c)]) w' ∧ R0 = [w']) := by
  have hcI := hI
  refine q_ct (cc := cX2_add) (maxL := 3) (ret := none) (own := RX2) (by decide) rfl hZ (Nat.le_of_ble_eq_true rfl) rfl ?_
  intro p9 e9 R s9 m9 args below meth c9 A Q C B
  have hts := C.2.2.2.2.1
  have hinX2 : ∀ w ∈ u_ws RX2 TX2 3, w ∈ wsX2_add := by decide +kernel
  have f18 := hts (.fieldLink RX2 18 "SortCases$Line" "length" "I") (by decide +kernel)
  have f9 := hts (.fieldLink RX2 9 "SortCases$Line" "sorts" "[I") (by decide +kernel)
  have f15 := hts (.fieldLink RX2 15 "SortCases$Line" "letters" "[I") (by decide +kernel)
  refine q_eqL (L' := [(0, .ref h0), (1, .int (nI x)), (2, .int (nI c))]) rfl ?_
  obtain ⟨hlok, hs, hl, f1, f2, hrel, rfl⟩ := h
  have hlen := hlok.1
  have hL : k_isL cI h0 ln [(h0, .inr (2, [.ref hs, .ref hl, .int (nI ln.length)])), (hs, .inl (cI, 72, .inl f1)), (hl, .inl (cI, 72, .inl f2))] := ⟨hlok, hs, hl, f1, f2, hrel, rfl⟩
  refine q_aload_n C dX2_add_0 1 0 rfl rfl ?_
  refine q_get (k := 0) (j := 0) (f := 2) C hinX2 f18 (fun _ h => h) (by decide) rfl dX2_add_1 4 rfl rfl rfl rfl ?_
  refine q_if_lt C dX2_add_4 7 61 rfl (by decide) (q_lt0 (by omega)) (fun h4 => False.elim (by first | omega | simp_all)) (fun h4 => ?_)
  refine q_aload_n C dX2_add_7 8 0 rfl rfl ?_
  refine q_get (k := 0) (j := 0) (f := 2) C hinX2 f18 (fun _ h => h) (by decide) rfl dX2_add_8 11 rfl rfl rfl rfl ?_
  refine q_aload_n C dX2_add_11 12 0 rfl rfl ?_
  refine q_get (k := 0) (j := 0) (f := 0) C hinX2 f9 (fun _ h => h) (by decide) rfl dX2_add_12 15 rfl rfl rfl rfl ?_
  refine q_alen (k := 0) (j := 1) (v := nI 72) C dX2_add_15 16 rfl rfl rfl hcI rfl ?_
  refine q_icmp_ge C dX2_add_16 19 61 rfl (by decide) (nI_leI (by omega) (by omega)) (fun h16 => False.elim (by first | omega | simp_all)) (fun h16 => ?_)
  refine q_aload_n C dX2_add_19 20 0 rfl rfl ?_
  refine q_get (k := 0) (j := 0) (f := 2) C hinX2 f18 (fun _ h => h) (by decide) rfl dX2_add_20 23 rfl rfl rfl rfl ?_
  refine q_aload_n C dX2_add_23 24 0 rfl rfl ?_
  refine q_get (k := 0) (j := 0) (f := 1) C hinX2 f15 (fun _ h => h) (by decide) rfl dX2_add_24 27 rfl rfl rfl rfl ?_
  refine q_alen (k := 0) (j := 2) (v := nI 72) C dX2_add_27 28 rfl rfl rfl hcI rfl ?_
  refine q_icmp_ge C dX2_add_28 31 61 rfl (by decide) (nI_leI (by omega) (by omega)) (fun h28 => False.elim (by first | omega | simp_all)) (fun h28 => ?_)
  refine q_aload_n C dX2_add_31 32 0 rfl rfl ?_
  refine q_get (k := 0) (j := 0) (f := 0) C hinX2 f9 (fun _ h => h) (by decide) rfl dX2_add_32 35 rfl rfl rfl rfl ?_
  refine q_aload_n C dX2_add_35 36 0 rfl rfl ?_
  refine q_get (k := 0) (j := 0) (f := 2) C hinX2 f18 (fun _ h => h) (by decide) rfl dX2_add_36 39 rfl rfl rfl rfl ?_
  refine q_iload_n C dX2_add_39 40 1 rfl rfl ?_
  refine q_iast (k := 0) (j := 1) C dX2_add_40 41 rfl rfl rfl hcI ln.length rfl (by omega) (by decide) [[(h0, .inr (2, [.ref hs, .ref hl, .int (nI ln.length)])), (hs, .inl (cI, 72, .inl (upd f1 ln.length (nI x)))), (hl, .inl (cI, 72, .inl f2))]] rfl ?_
  refine q_aload_n C dX2_add_41 42 0 rfl rfl ?_
  refine q_get (k := 0) (j := 0) (f := 1) C hinX2 f15 (fun _ h => h) (by decide) rfl dX2_add_42 45 rfl rfl rfl rfl ?_
  refine q_aload_n C dX2_add_45 46 0 rfl rfl ?_
  refine q_get (k := 0) (j := 0) (f := 2) C hinX2 f18 (fun _ h => h) (by decide) rfl dX2_add_46 49 rfl rfl rfl rfl ?_
  refine q_iload_n C dX2_add_49 50 2 rfl rfl ?_
  refine q_iast (k := 0) (j := 2) C dX2_add_50 51 rfl rfl rfl hcI ln.length rfl (by omega) (by decide) [[(h0, .inr (2, [.ref hs, .ref hl, .int (nI ln.length)])), (hs, .inl (cI, 72, .inl (upd f1 ln.length (nI x)))), (hl, .inl (cI, 72, .inl (upd f2 ln.length (nI c))))]] rfl ?_
  refine q_aload_n C dX2_add_51 52 0 rfl rfl ?_
  refine q_dup C dX2_add_52 53 rfl rfl ?_
  refine q_get (k := 0) (j := 0) (f := 2) C hinX2 f18 (fun _ h => h) (by decide) rfl dX2_add_53 56 rfl rfl rfl rfl ?_
  refine q_iconst (v := nI 1) C dX2_add_56 57 rfl (by decide) ?_
  refine q_iadd (v := nI (ln.length + 1)) C dX2_add_57 58 rfl (q_nadd (by omega)) ?_
  refine q_put (k := 0) (j := 0) (f := 2) C hinX2 tyX2 tyX2_ok nmX2 f18 (fun _ h => h) (by decide) rfl rfl (tyX2_ok 2 (by decide)) rfl rfl dX2_add_58 61 rfl rfl rfl (Nat.le_of_ble_eq_true rfl) [[(h0, .inr (2, [.ref hs, .ref hl, .int (nI (ln.length + 1))])), (hs, .inl (cI, 72, .inl (upd f1 ln.length (nI x)))), (hl, .inl (cI, 72, .inl (upd f2 ln.length (nI c))))]] rfl ?_
  exact q_vret C B dX2_add_61 rfl rfl (fun t0 ht0 => ⟨rfl, _, ⟨k_Lok_app hlok hl40 hx hc, hs, hl, _, _, k_LR_app hrel, by rw [List.length_append, List.length_singleton]⟩, rfl⟩)

set_option maxHeartbeats 4000000 in
set_option maxRecDepth 100000 in
theorem c_X2_replaceAt (l : Launch) {D : va_G} {tys : List (ClassId × FieldType)} {Z : (Nat → Prop) → State → Heap → Prop} (hZ : q_St Z) {cI : ClassId} (hI : tys[0]? = some (cI, .int)) (h0 : Nat) (ln : List (Nat × Nat)) (w : va_W) (h : k_isL cI h0 ln w) (q : Nat) (x : Nat) (hq : q < ln.length) (hx : x < 12) : q_Ct l D tys Z yX2_replaceAt wsX2_replaceAt ({ frames := 1, cells := 0, slots := 0, locals := 42 } : Room) 0 0 [.ref h0, .int (nI q), .int (nI x)] [w] (fun v0 R0 _ => v0 = none ∧ ∃ w', k_isL cI h0 (k_rep ln q x) w' ∧ R0 = [w']) := by
  have hcI := hI
  refine q_ct (cc := cX2_replaceAt) (maxL := 3) (ret := none) (own := RX2) (by decide) rfl hZ (Nat.le_of_ble_eq_true rfl) rfl ?_
  intro p9 e9 R s9 m9 args below meth c9 A Q C B
  have hts := C.2.2.2.2.1
  have hinX2 : ∀ w ∈ u_ws RX2 TX2 3, w ∈ wsX2_replaceAt := by decide +kernel
  have f18 := hts (.fieldLink RX2 18 "SortCases$Line" "length" "I") (by decide +kernel)
  have f9 := hts (.fieldLink RX2 9 "SortCases$Line" "sorts" "[I") (by decide +kernel)
  refine q_eqL (L' := [(0, .ref h0), (1, .int (nI q)), (2, .int (nI x))]) rfl ?_
  obtain ⟨hlok, hs, hl, f1, f2, hrel, rfl⟩ := h
  have hlen := hlok.1
  have hL : k_isL cI h0 ln [(h0, .inr (2, [.ref hs, .ref hl, .int (nI ln.length)])), (hs, .inl (cI, 72, .inl f1)), (hl, .inl (cI, 72, .inl f2))] := ⟨hlok, hs, hl, f1, f2, hrel, rfl⟩
  refine q_iload_n C dX2_replaceAt_0 1 1 rfl rfl ?_
  refine q_if_lt C dX2_replaceAt_1 4 28 rfl (by decide) (q_lt0 (by omega)) (fun h1 => False.elim (by first | omega | simp_all)) (fun h1 => ?_)
  refine q_iload_n C dX2_replaceAt_4 5 1 rfl rfl ?_
  refine q_aload_n C dX2_replaceAt_5 6 0 rfl rfl ?_
  refine q_get (k := 0) (j := 0) (f := 2) C hinX2 f18 (fun _ h => h) (by decide) rfl dX2_replaceAt_6 9 rfl rfl rfl rfl ?_
  refine q_icmp_ge C dX2_replaceAt_9 12 28 rfl (by decide) (nI_leI (by omega) (by omega)) (fun h9 => False.elim (by first | omega | simp_all)) (fun h9 => ?_)
  refine q_iload_n C dX2_replaceAt_12 13 1 rfl rfl ?_
  refine q_aload_n C dX2_replaceAt_13 14 0 rfl rfl ?_
  refine q_get (k := 0) (j := 0) (f := 0) C hinX2 f9 (fun _ h => h) (by decide) rfl dX2_replaceAt_14 17 rfl rfl rfl rfl ?_
  refine q_alen (k := 0) (j := 1) (v := nI 72) C dX2_replaceAt_17 18 rfl rfl rfl hcI rfl ?_
  refine q_icmp_ge C dX2_replaceAt_18 21 28 rfl (by decide) (nI_leI (by omega) (by omega)) (fun h18 => False.elim (by first | omega | simp_all)) (fun h18 => ?_)
  refine q_aload_n C dX2_replaceAt_21 22 0 rfl rfl ?_
  refine q_get (k := 0) (j := 0) (f := 0) C hinX2 f9 (fun _ h => h) (by decide) rfl dX2_replaceAt_22 25 rfl rfl rfl rfl ?_
  refine q_iload_n C dX2_replaceAt_25 26 1 rfl rfl ?_
  refine q_iload_n C dX2_replaceAt_26 27 2 rfl rfl ?_
  refine q_iast (k := 0) (j := 1) C dX2_replaceAt_27 28 rfl rfl rfl hcI q rfl (by omega) (by decide) [[(h0, .inr (2, [.ref hs, .ref hl, .int (nI ln.length)])), (hs, .inl (cI, 72, .inl (upd f1 q (nI x)))), (hl, .inl (cI, 72, .inl f2))]] rfl ?_
  exact q_vret C B dX2_replaceAt_28 rfl rfl (fun t0 ht0 => ⟨rfl, _, ⟨k_Lok_rep hlok hq hx, hs, hl, _, _, k_LR_rep hrel hq, by rw [k_rep_len]⟩, rfl⟩)

set_option maxHeartbeats 4000000 in
set_option maxRecDepth 100000 in
theorem c_X2_clear (l : Launch) {D : va_G} {tys : List (ClassId × FieldType)} {Z : (Nat → Prop) → State → Heap → Prop} (hZ : q_St Z) {cI : ClassId} (hI : tys[0]? = some (cI, .int)) (h0 : Nat) (ln : List (Nat × Nat)) (w : va_W) (h : k_isL cI h0 ln w) : q_Ct l D tys Z yX2_clear wsX2_clear ({ frames := 1, cells := 0, slots := 0, locals := 42 } : Room) 0 0 [.ref h0] [w] (fun v0 R0 _ => v0 = none ∧ ∃ w', k_isL cI h0 (([] : List (Nat × Nat))) w' ∧ R0 = [w']) := by
  have hcI := hI
  refine q_ct (cc := cX2_clear) (maxL := 1) (ret := none) (own := RX2) (by decide) rfl hZ (Nat.le_of_ble_eq_true rfl) rfl ?_
  intro p9 e9 R s9 m9 args below meth c9 A Q C B
  have hts := C.2.2.2.2.1
  have hinX2 : ∀ w ∈ u_ws RX2 TX2 3, w ∈ wsX2_clear := by decide +kernel
  have f18 := hts (.fieldLink RX2 18 "SortCases$Line" "length" "I") (by decide +kernel)
  refine q_eqL (L' := [(0, .ref h0)]) rfl ?_
  obtain ⟨hlok, hs, hl, f1, f2, hrel, rfl⟩ := h
  have hlen := hlok.1
  have hL : k_isL cI h0 ln [(h0, .inr (2, [.ref hs, .ref hl, .int (nI ln.length)])), (hs, .inl (cI, 72, .inl f1)), (hl, .inl (cI, 72, .inl f2))] := ⟨hlok, hs, hl, f1, f2, hrel, rfl⟩
  refine q_aload_n C dX2_clear_0 1 0 rfl rfl ?_
  refine q_iconst (v := nI 0) C dX2_clear_1 2 rfl (by decide) ?_
  refine q_put (k := 0) (j := 0) (f := 2) C hinX2 tyX2 tyX2_ok nmX2 f18 (fun _ h => h) (by decide) rfl rfl (tyX2_ok 2 (by decide)) rfl rfl dX2_clear_2 5 rfl rfl rfl (Nat.le_of_ble_eq_true rfl) [[(h0, .inr (2, [.ref hs, .ref hl, .int (nI 0)])), (hs, .inl (cI, 72, .inl f1)), (hl, .inl (cI, 72, .inl f2))]] rfl ?_
  exact q_vret C B dX2_clear_5 rfl rfl (fun t0 ht0 => ⟨rfl, _, ⟨k_Lok_nil, hs, hl, f1, f2, fun i hi => absurd hi (Nat.not_lt_zero i), rfl⟩, rfl⟩)

set_option maxHeartbeats 4000000 in
set_option maxRecDepth 100000 in
theorem c_X2_sortAt (l : Launch) {D : va_G} {tys : List (ClassId × FieldType)} {Z : (Nat → Prop) → State → Heap → Prop} (hZ : q_St Z) {cI : ClassId} (hI : tys[0]? = some (cI, .int)) (h0 : Nat) (ln : List (Nat × Nat)) (w : va_W) (h : k_isL cI h0 ln w) (q : Nat) (hq : q < ln.length) : q_Ct l D tys Z yX2_sortAt wsX2_sortAt ({ frames := 1, cells := 0, slots := 0, locals := 42 } : Room) 0 0 [.ref h0, .int (nI q)] [w] (fun v0 R0 _ => v0 = some (.int (nI ((k_la ln q).1))) ∧ R0 = [w]) := by
  have hcI := hI
  refine q_ct (cc := cX2_sortAt) (maxL := 2) (ret := (some .int)) (own := RX2) (by decide) rfl hZ (Nat.le_of_ble_eq_true rfl) rfl ?_
  intro p9 e9 R s9 m9 args below meth c9 A Q C B
  have hts := C.2.2.2.2.1
  have hinX2 : ∀ w ∈ u_ws RX2 TX2 3, w ∈ wsX2_sortAt := by decide +kernel
  have f18 := hts (.fieldLink RX2 18 "SortCases$Line" "length" "I") (by decide +kernel)
  have f9 := hts (.fieldLink RX2 9 "SortCases$Line" "sorts" "[I") (by decide +kernel)
  refine q_eqL (L' := [(0, .ref h0), (1, .int (nI q))]) rfl ?_
  obtain ⟨hlok, hs, hl, f1, f2, hrel, rfl⟩ := h
  have hlen := hlok.1
  have hL : k_isL cI h0 ln [(h0, .inr (2, [.ref hs, .ref hl, .int (nI ln.length)])), (hs, .inl (cI, 72, .inl f1)), (hl, .inl (cI, 72, .inl f2))] := ⟨hlok, hs, hl, f1, f2, hrel, rfl⟩
  refine q_iload_n C dX2_sortAt_0 1 1 rfl rfl ?_
  refine q_if_lt C dX2_sortAt_1 4 30 rfl (by decide) (q_lt0 (by omega)) (fun h1 => False.elim (by first | omega | simp_all)) (fun h1 => ?_)
  refine q_iload_n C dX2_sortAt_4 5 1 rfl rfl ?_
  refine q_aload_n C dX2_sortAt_5 6 0 rfl rfl ?_
  refine q_get (k := 0) (j := 0) (f := 2) C hinX2 f18 (fun _ h => h) (by decide) rfl dX2_sortAt_6 9 rfl rfl rfl rfl ?_
  refine q_icmp_ge C dX2_sortAt_9 12 30 rfl (by decide) (nI_leI (by omega) (by omega)) (fun h9 => False.elim (by first | omega | simp_all)) (fun h9 => ?_)
  refine q_iload_n C dX2_sortAt_12 13 1 rfl rfl ?_
  refine q_aload_n C dX2_sortAt_13 14 0 rfl rfl ?_
  refine q_get (k := 0) (j := 0) (f := 0) C hinX2 f9 (fun _ h => h) (by decide) rfl dX2_sortAt_14 17 rfl rfl rfl rfl ?_
  refine q_alen (k := 0) (j := 1) (v := nI 72) C dX2_sortAt_17 18 rfl rfl rfl hcI rfl ?_
  refine q_icmp_ge C dX2_sortAt_18 21 30 rfl (by decide) (nI_leI (by omega) (by omega)) (fun h18 => False.elim (by first | omega | simp_all)) (fun h18 => ?_)
  refine q_aload_n C dX2_sortAt_21 22 0 rfl rfl ?_
  refine q_get (k := 0) (j := 0) (f := 0) C hinX2 f9 (fun _ h => h) (by decide) rfl dX2_sortAt_22 25 rfl rfl rfl rfl ?_
  refine q_iload_n C dX2_sortAt_25 26 1 rfl rfl ?_
  refine q_iald (k := 0) (j := 1) (v := nI ((k_la ln q).1)) C dX2_sortAt_26 27 rfl rfl rfl hcI q rfl (by omega) (by decide) (hrel q (by omega)).1 ?_
  refine q_goto C dX2_sortAt_27 31 (by decide) ?_
  exact q_iret C B dX2_sortAt_31 rfl rfl (fun t0 ht0 => ⟨rfl, rfl⟩)

set_option maxHeartbeats 4000000 in
set_option maxRecDepth 100000 in
theorem c_X2_letterAt (l : Launch) {D : va_G} {tys : List (ClassId × FieldType)} {Z : (Nat → Prop) → State → Heap → Prop} (hZ : q_St Z) {cI : ClassId} (hI : tys[0]? = some (cI, .int)) (h0 : Nat) (ln : List (Nat × Nat)) (w : va_W) (h : k_isL cI h0 ln w) (q : Nat) (hq : q < ln.length) : q_Ct l D tys Z yX2_letterAt wsX2_letterAt ({ frames := 1, cells := 0, slots := 0, locals := 42 } : Room) 0 0 [.ref h0, .int (nI q)] [w] (fun v0 R0 _ => v0 = some (.int (nI ((k_la ln q).2))) ∧ R0 = [w]) := by
  have hcI := hI
  refine q_ct (cc := cX2_letterAt) (maxL := 2) (ret := (some .int)) (own := RX2) (by decide) rfl hZ (Nat.le_of_ble_eq_true rfl) rfl ?_
  intro p9 e9 R s9 m9 args below meth c9 A Q C B
  have hts := C.2.2.2.2.1
  have hinX2 : ∀ w ∈ u_ws RX2 TX2 3, w ∈ wsX2_letterAt := by decide +kernel
  have f18 := hts (.fieldLink RX2 18 "SortCases$Line" "length" "I") (by decide +kernel)
  have f15 := hts (.fieldLink RX2 15 "SortCases$Line" "letters" "[I") (by decide +kernel)
  refine q_eqL (L' := [(0, .ref h0), (1, .int (nI q))]) rfl ?_
  obtain ⟨hlok, hs, hl, f1, f2, hrel, rfl⟩ := h
  have hlen := hlok.1
  have hL : k_isL cI h0 ln [(h0, .inr (2, [.ref hs, .ref hl, .int (nI ln.length)])), (hs, .inl (cI, 72, .inl f1)), (hl, .inl (cI, 72, .inl f2))] := ⟨hlok, hs, hl, f1, f2, hrel, rfl⟩
  refine q_iload_n C dX2_letterAt_0 1 1 rfl rfl ?_
  refine q_if_lt C dX2_letterAt_1 4 30 rfl (by decide) (q_lt0 (by omega)) (fun h1 => False.elim (by first | omega | simp_all)) (fun h1 => ?_)
  refine q_iload_n C dX2_letterAt_4 5 1 rfl rfl ?_
  refine q_aload_n C dX2_letterAt_5 6 0 rfl rfl ?_
  refine q_get (k := 0) (j := 0) (f := 2) C hinX2 f18 (fun _ h => h) (by decide) rfl dX2_letterAt_6 9 rfl rfl rfl rfl ?_
  refine q_icmp_ge C dX2_letterAt_9 12 30 rfl (by decide) (nI_leI (by omega) (by omega)) (fun h9 => False.elim (by first | omega | simp_all)) (fun h9 => ?_)
  refine q_iload_n C dX2_letterAt_12 13 1 rfl rfl ?_
  refine q_aload_n C dX2_letterAt_13 14 0 rfl rfl ?_
  refine q_get (k := 0) (j := 0) (f := 1) C hinX2 f15 (fun _ h => h) (by decide) rfl dX2_letterAt_14 17 rfl rfl rfl rfl ?_
  refine q_alen (k := 0) (j := 2) (v := nI 72) C dX2_letterAt_17 18 rfl rfl rfl hcI rfl ?_
  refine q_icmp_ge C dX2_letterAt_18 21 30 rfl (by decide) (nI_leI (by omega) (by omega)) (fun h18 => False.elim (by first | omega | simp_all)) (fun h18 => ?_)
  refine q_aload_n C dX2_letterAt_21 22 0 rfl rfl ?_
  refine q_get (k := 0) (j := 0) (f := 1) C hinX2 f15 (fun _ h => h) (by decide) rfl dX2_letterAt_22 25 rfl rfl rfl rfl ?_
  refine q_iload_n C dX2_letterAt_25 26 1 rfl rfl ?_
  refine q_iald (k := 0) (j := 2) (v := nI ((k_la ln q).2)) C dX2_letterAt_26 27 rfl rfl rfl hcI q rfl (by omega) (by decide) (hrel q (by omega)).2 ?_
  refine q_goto C dX2_letterAt_27 31 (by decide) ?_
  exact q_iret C B dX2_letterAt_31 rfl rfl (fun t0 ht0 => ⟨rfl, rfl⟩)

set_option maxHeartbeats 4000000 in
set_option maxRecDepth 100000 in
theorem c_X2_isWrongAt (l : Launch) {D : va_G} {tys : List (ClassId × FieldType)} {Z : (Nat → Prop) → State → Heap → Prop} (hZ : q_St Z) {cI : ClassId} (hI : tys[0]? = some (cI, .int)) (h0 : Nat) (ln : List (Nat × Nat)) (w : va_W) (h : k_isL cI h0 ln w) (q : Nat) (hq : q < ln.length) : q_Ct l D tys Z yX2_isWrongAt wsX2_isWrongAt ({ frames := 2, cells := 0, slots := 0, locals := 72 } : Room) 0 0 [.ref h0, .int (nI q)] [w] (fun v0 R0 _ => v0 = some (.int (q_b (decide (¬ (k_la ln q).1 = (k_la ln q).2)))) ∧ R0 = [w]) := by
  have hcI := hI
  refine q_ct (cc := cX2_isWrongAt) (maxL := 2) (ret := (some .boolean)) (own := RX2) (by decide) rfl hZ (Nat.le_of_ble_eq_true rfl) rfl ?_
  intro p9 e9 R s9 m9 args below meth c9 A Q C B
  have hts := C.2.2.2.2.1
  refine q_eqL (L' := [(0, .ref h0), (1, .int (nI q))]) rfl ?_
  refine q_aload_n C dX2_isWrongAt_0 1 0 rfl rfl ?_
  refine q_iload_n C dX2_isWrongAt_1 2 1 rfl rfl ?_
  refine q_callV (k := 0) (ci := 2) (n := 1) (rest := []) (Rr := []) C rfl (k_isL_recv h) rfl (c_X2_sortAt l hZ hI h0 ln w h q (by omega)) gX2_isWrongAt_X2_sortAt rfl rfl rfl (by decide +kernel) B.1 ⟨Nat.le_of_ble_eq_true rfl, Nat.le_of_ble_eq_true rfl⟩ rfl rfl (Nat.le_of_ble_eq_true rfl) dX2_isWrongAt_2 ⟨Nat.le_of_ble_eq_true rfl, Nat.le_of_ble_eq_true rfl⟩ [0] [] (by decide : ([0] ++ ([] : List Nat)).Perm (List.range 1)) rfl rfl 5 rfl (fun v0 R0 t0 ht0 hp0 => ?_)
  obtain ⟨rfl, rfl⟩ := hp0
  refine q_eqs (st' := [.int (nI ((k_la ln q).1))]) rfl ?_
  refine q_eqR (Rs' := [w]) rfl ?_
  have ht2 : (k_la ln q).1 < 12 := (k_la_lt h.1 (by omega)).1
  refine q_aload_n C dX2_isWrongAt_5 6 0 rfl rfl ?_
  refine q_iload_n C dX2_isWrongAt_6 7 1 rfl rfl ?_
  refine q_callV (k := 0) (ci := 2) (n := 1) (rest := [.int (nI ((k_la ln q).1))]) (Rr := []) C rfl (k_isL_recv h) rfl (c_X2_letterAt l hZ hI h0 ln w h q (by omega)) gX2_isWrongAt_X2_letterAt rfl rfl rfl (by decide +kernel) B.1 ⟨Nat.le_of_ble_eq_true rfl, Nat.le_of_ble_eq_true rfl⟩ rfl rfl (Nat.le_of_ble_eq_true rfl) dX2_isWrongAt_7 ⟨Nat.le_of_ble_eq_true rfl, Nat.le_of_ble_eq_true rfl⟩ [0] [] (by decide : ([0] ++ ([] : List Nat)).Perm (List.range 1)) rfl rfl 10 rfl (fun v0 R0 t0 ht0 hp0 => ?_)
  obtain ⟨rfl, rfl⟩ := hp0
  refine q_eqs (st' := [.int (nI ((k_la ln q).2)), .int (nI ((k_la ln q).1))]) rfl ?_
  refine q_eqR (Rs' := [w]) rfl ?_
  have ht7 : (k_la ln q).2 < 12 := (k_la_lt h.1 (by omega)).2
  refine q_icmp_eq C dX2_isWrongAt_10 13 17 rfl (by decide) (nI_eq (by omega) (by omega)) (fun h10 => ?_) (fun h10 => ?_)
  · refine q_iconst (v := nI 0) C dX2_isWrongAt_17 18 rfl (by decide) ?_
    exact q_zret C B (by decide) dX2_isWrongAt_18 rfl rfl (fun t0 ht0 => ⟨by first | rw [decide_eq_true (by omega : ¬ (k_la ln q).1 = (k_la ln q).2)]; rfl | rw [decide_eq_false (by omega : ¬ ¬ (k_la ln q).1 = (k_la ln q).2)]; rfl, rfl⟩)
  · refine q_iconst (v := nI 1) C dX2_isWrongAt_13 14 rfl (by decide) ?_
    refine q_goto C dX2_isWrongAt_14 18 (by decide) ?_
    exact q_zret C B (by decide) dX2_isWrongAt_18 rfl rfl (fun t0 ht0 => ⟨by first | rw [decide_eq_true (by omega : ¬ (k_la ln q).1 = (k_la ln q).2)]; rfl | rw [decide_eq_false (by omega : ¬ ¬ (k_la ln q).1 = (k_la ln q).2)]; rfl, rfl⟩)

set_option maxHeartbeats 4000000 in
set_option maxRecDepth 100000 in
theorem c_X2_errors (l : Launch) {D : va_G} {tys : List (ClassId × FieldType)} {Z : (Nat → Prop) → State → Heap → Prop} (hZ : q_St Z) {cI : ClassId} (hI : tys[0]? = some (cI, .int)) (h0 : Nat) (ln : List (Nat × Nat)) (w : va_W) (h : k_isL cI h0 ln w) : q_Ct l D tys Z yX2_errors wsX2_errors ({ frames := 3, cells := 0, slots := 0, locals := 102 } : Room) 0 0 [.ref h0] [w] (fun v0 R0 _ => v0 = some (.int (nI (k_er ln))) ∧ R0 = [w]) := by
  have hcI := hI
  refine q_ct (cc := cX2_errors) (maxL := 3) (ret := (some .int)) (own := RX2) (by decide) rfl hZ (Nat.le_of_ble_eq_true rfl) rfl ?_
  intro p9 e9 R s9 m9 args below meth c9 A Q C B
  have hts := C.2.2.2.2.1
  have hinX2 : ∀ w ∈ u_ws RX2 TX2 3, w ∈ wsX2_errors := by decide +kernel
  have f18 := hts (.fieldLink RX2 18 "SortCases$Line" "length" "I") (by decide +kernel)
  refine q_eqL (L' := [(0, .ref h0)]) rfl ?_
  obtain ⟨hlok, hs, hl, f1, f2, hrel, rfl⟩ := h
  have hlen := hlok.1
  have hL : k_isL cI h0 ln [(h0, .inr (2, [.ref hs, .ref hl, .int (nI ln.length)])), (hs, .inl (cI, 72, .inl f1)), (hl, .inl (cI, 72, .inl f2))] := ⟨hlok, hs, hl, f1, f2, hrel, rfl⟩
  refine q_iconst (v := nI 0) C dX2_errors_0 1 rfl (by decide) ?_
  refine q_istore_n C dX2_errors_1 2 rfl [(1, .int (nI 0)), (0, .ref h0)] (by decide) rfl ?_
  refine q_iconst (v := nI 0) C dX2_errors_2 3 rfl (by decide) ?_
  refine q_istore_n C dX2_errors_3 4 rfl [(2, .int (nI 0)), (1, .int (nI 0)), (0, .ref h0)] (by decide) rfl ?_
  have lp : ∀ (kk : Nat) (i : Nat) (n : Nat), ln.length - i < kk → ∀ (hi : i ≤ ln.length), ∀ (hn : n = k_cnt (fun i => decide (¬ (k_la ln i).1 = (k_la ln i).2)) i), q_V p9 l e9 R s9 m9 args below meth c9 D A 3 Q 0 0 4 [(2, .int (nI i)), (1, .int (nI n)), (0, .ref h0)] [] [[(h0, .inr (2, [.ref hs, .ref hl, .int (nI ln.length)])), (hs, .inl (cI, 72, .inl f1)), (hl, .inl (cI, 72, .inl f2))]] := by
    intro kk
    induction kk with
    | zero => intro i n hkk; exact absurd hkk (Nat.not_lt_zero _)
    | succ kk ih_lp =>
      intro i n hkk hi hn
      refine q_iload_n C dX2_errors_4 5 0 rfl rfl ?_
      refine q_aload_n C dX2_errors_5 6 2 rfl rfl ?_
      refine q_get (k := 0) (j := 0) (f := 2) C hinX2 f18 (fun _ h => h) (by decide) rfl dX2_errors_6 9 rfl rfl rfl rfl ?_
      refine q_icmp_ge C dX2_errors_9 12 29 rfl (by decide) (nI_leI (by omega) (by omega)) (fun h9 => ?_) (fun h9 => ?_)
      · refine q_iload_n C dX2_errors_29 30 1 rfl rfl ?_
        exact q_iret C B dX2_errors_30 rfl rfl (fun t0 ht0 => ⟨by rw [hn, show i = ln.length by omega]; rfl, rfl⟩)
      · refine q_aload_n C dX2_errors_12 13 2 rfl rfl ?_
        refine q_iload_n C dX2_errors_13 14 0 rfl rfl ?_
        refine q_callV (k := 0) (ci := 2) (n := 1) (rest := []) (Rr := []) C rfl (k_isL_recv hL) rfl (c_X2_isWrongAt l hZ hI h0 ln ([(h0, .inr (2, [.ref hs, .ref hl, .int (nI ln.length)])), (hs, .inl (cI, 72, .inl f1)), (hl, .inl (cI, 72, .inl f2))]) hL i (by omega)) gX2_errors_X2_isWrongAt rfl rfl rfl (by decide +kernel) B.1 ⟨Nat.le_of_ble_eq_true rfl, Nat.le_of_ble_eq_true rfl⟩ rfl rfl (Nat.le_of_ble_eq_true rfl) dX2_errors_14 ⟨Nat.le_of_ble_eq_true rfl, Nat.le_of_ble_eq_true rfl⟩ [0] [] (by decide : ([0] ++ ([] : List Nat)).Perm (List.range 1)) rfl rfl 17 rfl (fun v0 R0 t0 ht0 hp0 => ?_)
        obtain ⟨rfl, rfl⟩ := hp0
        refine q_eqs (st' := [.int (q_b (decide (¬ (k_la ln i).1 = (k_la ln i).2)))]) rfl ?_
        refine q_eqR (Rs' := [[(h0, .inr (2, [.ref hs, .ref hl, .int (nI ln.length)])), (hs, .inl (cI, 72, .inl f1)), (hl, .inl (cI, 72, .inl f2))]]) rfl ?_
        refine q_if_eq (P := ¬ (¬ (k_la ln i).1 = (k_la ln i).2)) C dX2_errors_17 20 23 rfl (by decide) q_bd0 (fun h17 => ?_) (fun h17 => ?_)
        · refine q_iinc (v := nI (i + 1)) C dX2_errors_23 26 0 rfl rfl (q_ninc1 (by omega)) [(2, .int (nI (i + 1))), (1, .int (nI n)), (0, .ref h0)] (by decide) rfl ?_
          refine q_goto C dX2_errors_26 4 (by decide) ?_
          refine q_sub (L' := [(2, .int (nI (i + 1))), (1, .int (nI n)), (0, .ref h0)]) [0, 1, 2] rfl ?_
          exact ih_lp (i + 1) n (by omega) (by omega) (by first | (rw [k_cnt_t (by simp; omega)]; omega) | (rw [k_cnt_f (by simp; omega)]; omega))
        · refine q_iinc (v := nI (n + 1)) C dX2_errors_20 23 1 rfl rfl (q_ninc1 (by omega)) [(1, .int (nI (n + 1))), (2, .int (nI i)), (0, .ref h0)] (by decide) rfl ?_
          refine q_iinc (v := nI (i + 1)) C dX2_errors_23 26 1 rfl rfl (q_ninc1 (by omega)) [(2, .int (nI (i + 1))), (1, .int (nI (n + 1))), (0, .ref h0)] (by decide) rfl ?_
          refine q_goto C dX2_errors_26 4 (by decide) ?_
          refine q_sub (L' := [(2, .int (nI (i + 1))), (1, .int (nI (n + 1))), (0, .ref h0)]) [0, 1, 2] rfl ?_
          exact ih_lp (i + 1) (n + 1) (by omega) (by omega) (by first | (rw [k_cnt_t (by simp; omega)]; omega) | (rw [k_cnt_f (by simp; omega)]; omega))
  refine q_sub (L' := [(2, .int (nI 0)), (1, .int (nI 0)), (0, .ref h0)]) [0, 1, 2] rfl ?_
  exact lp _ 0 0 (Nat.lt_succ_self _) (by omega) rfl

set_option maxHeartbeats 4000000 in
set_option maxRecDepth 100000 in
theorem c_X2_countOf (l : Launch) {D : va_G} {tys : List (ClassId × FieldType)} {Z : (Nat → Prop) → State → Heap → Prop} (hZ : q_St Z) {cI : ClassId} (hI : tys[0]? = some (cI, .int)) (h0 : Nat) (ln : List (Nat × Nat)) (w : va_W) (h : k_isL cI h0 ln w) (x : Nat) (hx : x < 12) : q_Ct l D tys Z yX2_countOf wsX2_countOf ({ frames := 2, cells := 0, slots := 0, locals := 72 } : Room) 0 0 [.ref h0, .int (nI x)] [w] (fun v0 R0 _ => v0 = some (.int (nI (k_cl ln x))) ∧ R0 = [w]) := by
  have hcI := hI
  refine q_ct (cc := cX2_countOf) (maxL := 4) (ret := (some .int)) (own := RX2) (by decide) rfl hZ (Nat.le_of_ble_eq_true rfl) rfl ?_
  intro p9 e9 R s9 m9 args below meth c9 A Q C B
  have hts := C.2.2.2.2.1
  have hinX2 : ∀ w ∈ u_ws RX2 TX2 3, w ∈ wsX2_countOf := by decide +kernel
  have f18 := hts (.fieldLink RX2 18 "SortCases$Line" "length" "I") (by decide +kernel)
  refine q_eqL (L' := [(0, .ref h0), (1, .int (nI x))]) rfl ?_
  obtain ⟨hlok, hs, hl, f1, f2, hrel, rfl⟩ := h
  have hlen := hlok.1
  have hL : k_isL cI h0 ln [(h0, .inr (2, [.ref hs, .ref hl, .int (nI ln.length)])), (hs, .inl (cI, 72, .inl f1)), (hl, .inl (cI, 72, .inl f2))] := ⟨hlok, hs, hl, f1, f2, hrel, rfl⟩
  refine q_iconst (v := nI 0) C dX2_countOf_0 1 rfl (by decide) ?_
  refine q_istore_n C dX2_countOf_1 2 rfl [(2, .int (nI 0)), (0, .ref h0), (1, .int (nI x))] (by decide) rfl ?_
  refine q_iconst (v := nI 0) C dX2_countOf_2 3 rfl (by decide) ?_
  refine q_istore_n C dX2_countOf_3 4 rfl [(3, .int (nI 0)), (2, .int (nI 0)), (0, .ref h0), (1, .int (nI x))] (by decide) rfl ?_
  have lp : ∀ (kk : Nat) (i : Nat) (n : Nat), ln.length - i < kk → ∀ (hi : i ≤ ln.length), ∀ (hn : n = k_cnt (fun i => (k_la ln i).1 == x) i), q_V p9 l e9 R s9 m9 args below meth c9 D A 4 Q 0 0 4 [(3, .int (nI i)), (2, .int (nI n)), (0, .ref h0), (1, .int (nI x))] [] [[(h0, .inr (2, [.ref hs, .ref hl, .int (nI ln.length)])), (hs, .inl (cI, 72, .inl f1)), (hl, .inl (cI, 72, .inl f2))]] := by
    intro kk
    induction kk with
    | zero => intro i n hkk; exact absurd hkk (Nat.not_lt_zero _)
    | succ kk ih_lp =>
      intro i n hkk hi hn
      refine q_iload_n C dX2_countOf_4 5 0 rfl rfl ?_
      refine q_aload_n C dX2_countOf_5 6 2 rfl rfl ?_
      refine q_get (k := 0) (j := 0) (f := 2) C hinX2 f18 (fun _ h => h) (by decide) rfl dX2_countOf_6 9 rfl rfl rfl rfl ?_
      refine q_icmp_ge C dX2_countOf_9 12 30 rfl (by decide) (nI_leI (by omega) (by omega)) (fun h9 => ?_) (fun h9 => ?_)
      · refine q_iload_n C dX2_countOf_30 31 1 rfl rfl ?_
        exact q_iret C B dX2_countOf_31 rfl rfl (fun t0 ht0 => ⟨by rw [hn, show i = ln.length by omega]; rfl, rfl⟩)
      · refine q_aload_n C dX2_countOf_12 13 2 rfl rfl ?_
        refine q_iload_n C dX2_countOf_13 14 0 rfl rfl ?_
        refine q_callV (k := 0) (ci := 2) (n := 1) (rest := []) (Rr := []) C rfl (k_isL_recv hL) rfl (c_X2_sortAt l hZ hI h0 ln ([(h0, .inr (2, [.ref hs, .ref hl, .int (nI ln.length)])), (hs, .inl (cI, 72, .inl f1)), (hl, .inl (cI, 72, .inl f2))]) hL i (by omega)) gX2_countOf_X2_sortAt rfl rfl rfl (by decide +kernel) B.1 ⟨Nat.le_of_ble_eq_true rfl, Nat.le_of_ble_eq_true rfl⟩ rfl rfl (Nat.le_of_ble_eq_true rfl) dX2_countOf_14 ⟨Nat.le_of_ble_eq_true rfl, Nat.le_of_ble_eq_true rfl⟩ [0] [] (by decide : ([0] ++ ([] : List Nat)).Perm (List.range 1)) rfl rfl 17 rfl (fun v0 R0 t0 ht0 hp0 => ?_)
        obtain ⟨rfl, rfl⟩ := hp0
        refine q_eqs (st' := [.int (nI ((k_la ln i).1))]) rfl ?_
        refine q_eqR (Rs' := [[(h0, .inr (2, [.ref hs, .ref hl, .int (nI ln.length)])), (hs, .inl (cI, 72, .inl f1)), (hl, .inl (cI, 72, .inl f2))]]) rfl ?_
        have ht14 : (k_la ln i).1 < 12 := (k_la_lt hL.1 (by omega)).1
        refine q_iload_n C dX2_countOf_17 18 3 rfl rfl ?_
        refine q_icmp_ne C dX2_countOf_18 21 24 rfl (by decide) (nI_eq (by omega) (by omega)) (fun h18 => ?_) (fun h18 => ?_)
        · refine q_iinc (v := nI (i + 1)) C dX2_countOf_24 27 0 rfl rfl (q_ninc1 (by omega)) [(3, .int (nI (i + 1))), (2, .int (nI n)), (0, .ref h0), (1, .int (nI x))] (by decide) rfl ?_
          refine q_goto C dX2_countOf_27 4 (by decide) ?_
          refine q_sub (L' := [(3, .int (nI (i + 1))), (2, .int (nI n)), (0, .ref h0), (1, .int (nI x))]) [0, 1, 2, 3] rfl ?_
          exact ih_lp (i + 1) n (by omega) (by omega) (by first | (rw [k_cnt_t (by simp; omega)]; omega) | (rw [k_cnt_f (by simp; omega)]; omega))
        · refine q_iinc (v := nI (n + 1)) C dX2_countOf_21 24 1 rfl rfl (q_ninc1 (by omega)) [(2, .int (nI (n + 1))), (3, .int (nI i)), (0, .ref h0), (1, .int (nI x))] (by decide) rfl ?_
          refine q_iinc (v := nI (i + 1)) C dX2_countOf_24 27 1 rfl rfl (q_ninc1 (by omega)) [(3, .int (nI (i + 1))), (2, .int (nI (n + 1))), (0, .ref h0), (1, .int (nI x))] (by decide) rfl ?_
          refine q_goto C dX2_countOf_27 4 (by decide) ?_
          refine q_sub (L' := [(3, .int (nI (i + 1))), (2, .int (nI (n + 1))), (0, .ref h0), (1, .int (nI x))]) [0, 1, 2, 3] rfl ?_
          exact ih_lp (i + 1) (n + 1) (by omega) (by omega) (by first | (rw [k_cnt_t (by simp; omega)]; omega) | (rw [k_cnt_f (by simp; omega)]; omega))
  refine q_sub (L' := [(3, .int (nI 0)), (2, .int (nI 0)), (0, .ref h0), (1, .int (nI x))]) [0, 1, 2, 3] rfl ?_
  exact lp _ 0 0 (Nat.lt_succ_self _) (by omega) rfl

set_option maxHeartbeats 4000000 in
set_option maxRecDepth 100000 in
theorem c_X6_widthOf (l : Launch) {D : va_G} {tys : List (ClassId × FieldType)} {Z : (Nat → Prop) → State → Heap → Prop} (hZ : q_St Z) {cI : ClassId} (hI : tys[0]? = some (cI, .int)) (x : Nat) (hx : x < 12) : q_Ct l D tys Z yX6_widthOf wsX6_widthOf ({ frames := 1, cells := 0, slots := 0, locals := 42 } : Room) 0 0 [.int (nI x)] [] (fun v0 R0 _ => v0 = some (.int (nI (k_wd x))) ∧ R0 = []) := by
  have hcI := hI
  refine q_ct (cc := cX6_widthOf) (maxL := 1) (ret := (some .int)) (own := RX6) (by decide) rfl hZ (Nat.le_of_ble_eq_true rfl) rfl ?_
  intro p9 e9 R s9 m9 args below meth c9 A Q C B
  have hts := C.2.2.2.2.1
  refine q_eqL (L' := [(0, .int (nI x))]) rfl ?_
  refine q_iconst (v := nI 2) C dX6_widthOf_0 1 rfl (by decide) ?_
  refine q_iload_n C dX6_widthOf_1 2 0 rfl rfl ?_
  refine q_iconst (v := nI 3) C dX6_widthOf_2 3 rfl (by decide) ?_
  refine q_irem (v := nI ((x % 3))) C dX6_widthOf_3 4 rfl (q_nz (by omega) (by omega)) (pk_rem (by omega) (by omega) (by omega)) ?_
  refine q_iadd (v := nI ((x % 3) + 2)) C dX6_widthOf_4 5 rfl (q_nadd (by omega)) ?_
  exact q_iret C B dX6_widthOf_5 rfl rfl (fun t0 ht0 => ⟨by rw [show x % 3 + 2 = k_wd x from Nat.add_comm _ _], rfl⟩)

set_option maxHeartbeats 4000000 in
set_option maxRecDepth 100000 in
theorem c_X6_isSort (l : Launch) {D : va_G} {tys : List (ClassId × FieldType)} {Z : (Nat → Prop) → State → Heap → Prop} (hZ : q_St Z) {cI : ClassId} (hI : tys[0]? = some (cI, .int)) (x : Int32) : q_Ct l D tys Z yX6_isSort wsX6_isSort ({ frames := 1, cells := 0, slots := 0, locals := 42 } : Room) 0 0 [.int x] [] (fun v0 R0 _ => v0 = some (.int (q_b (decide (0 ≤ x ∧ x < 12)))) ∧ R0 = []) := by
  have hcI := hI
  refine q_ct (cc := cX6_isSort) (maxL := 1) (ret := (some .boolean)) (own := RX6) (by decide) rfl hZ (Nat.le_of_ble_eq_true rfl) rfl ?_
  intro p9 e9 R s9 m9 args below meth c9 A Q C B
  have hts := C.2.2.2.2.1
  refine q_eqL (L' := [(0, .int x)]) rfl ?_
  refine q_iload_n C dX6_isSort_0 1 0 rfl rfl ?_
  refine q_if_lt C dX6_isSort_1 4 14 rfl (by decide) Iff.rfl (fun h1 => ?_) (fun h1 => ?_)
  · refine q_iconst (v := nI 0) C dX6_isSort_14 15 rfl (by decide) ?_
    exact q_zret C B (by decide) dX6_isSort_15 rfl rfl (fun t0 ht0 => ⟨by first | rw [decide_eq_true ⟨Int32.not_lt.mp h1, Int32.not_le.mp h7⟩]; rfl | rw [decide_eq_false (fun z => absurd z.1 (Int32.not_le.mpr h1))]; rfl | rw [decide_eq_false (fun z => absurd h7 (Int32.not_le.mpr z.2))]; rfl, rfl⟩)
  · refine q_iload_n C dX6_isSort_4 5 0 rfl rfl ?_
    refine q_bipush (v := nI 12) C dX6_isSort_5 7 rfl (by decide) ?_
    refine q_icmp_ge C dX6_isSort_7 10 14 rfl (by decide) Iff.rfl (fun h7 => ?_) (fun h7 => ?_)
    · refine q_iconst (v := nI 0) C dX6_isSort_14 15 rfl (by decide) ?_
      exact q_zret C B (by decide) dX6_isSort_15 rfl rfl (fun t0 ht0 => ⟨by first | rw [decide_eq_true ⟨Int32.not_lt.mp h1, Int32.not_le.mp h7⟩]; rfl | rw [decide_eq_false (fun z => absurd z.1 (Int32.not_le.mpr h1))]; rfl | rw [decide_eq_false (fun z => absurd h7 (Int32.not_le.mpr z.2))]; rfl, rfl⟩)
    · refine q_iconst (v := nI 1) C dX6_isSort_10 11 rfl (by decide) ?_
      refine q_goto C dX6_isSort_11 15 (by decide) ?_
      exact q_zret C B (by decide) dX6_isSort_15 rfl rfl (fun t0 ht0 => ⟨by first | rw [decide_eq_true ⟨Int32.not_lt.mp h1, Int32.not_le.mp h7⟩]; rfl | rw [decide_eq_false (fun z => absurd z.1 (Int32.not_le.mpr h1))]; rfl | rw [decide_eq_false (fun z => absurd h7 (Int32.not_le.mpr z.2))]; rfl, rfl⟩)

set_option maxHeartbeats 4000000 in
set_option maxRecDepth 100000 in
theorem c_X2_nextPosition (l : Launch) {D : va_G} {tys : List (ClassId × FieldType)} {Z : (Nat → Prop) → State → Heap → Prop} (hZ : q_St Z) {cI : ClassId} (hI : tys[0]? = some (cI, .int)) (hN : q_Ns Z) (h0 : Nat) (ln : List (Nat × Nat)) (w : va_W) (h : k_isL cI h0 ln w) : q_Ct l D tys Z yX2_nextPosition wsX2_nextPosition ({ frames := 2, cells := 0, slots := 0, locals := 72 } : Room) 0 0 [.ref h0] [w] (fun v0 R0 _ => v0 = some (.int (nI (k_np ln))) ∧ R0 = [w]) := by
  have hcI := hI
  refine q_ct (cc := cX2_nextPosition) (maxL := 3) (ret := (some .int)) (own := RX2) (by decide) rfl hZ (Nat.le_of_ble_eq_true rfl) rfl ?_
  intro p9 e9 R s9 m9 args below meth c9 A Q C B
  have hts := C.2.2.2.2.1
  have hinX2 : ∀ w ∈ u_ws RX2 TX2 3, w ∈ wsX2_nextPosition := by decide +kernel
  have f18 := hts (.fieldLink RX2 18 "SortCases$Line" "length" "I") (by decide +kernel)
  have nst_X6_widthOf := q_nst hN C (by decide +kernel : Cond.methodLinkNest "SortCases$Line" 33 yX6_widthOf "SortCases" ∈ q_nest)
  have iniX6 := hts (.initialized RX6) (by decide +kernel)
  have sta_X6_widthOf := hts (.static yX6_widthOf) (by decide +kernel)
  refine q_eqL (L' := [(0, .ref h0)]) rfl ?_
  obtain ⟨hlok, hs, hl, f1, f2, hrel, rfl⟩ := h
  have hlen := hlok.1
  have hL : k_isL cI h0 ln [(h0, .inr (2, [.ref hs, .ref hl, .int (nI ln.length)])), (hs, .inl (cI, 72, .inl f1)), (hl, .inl (cI, 72, .inl f2))] := ⟨hlok, hs, hl, f1, f2, hrel, rfl⟩
  refine q_iconst (v := nI 0) C dX2_nextPosition_0 1 rfl (by decide) ?_
  refine q_istore_n C dX2_nextPosition_1 2 rfl [(1, .int (nI 0)), (0, .ref h0)] (by decide) rfl ?_
  refine q_iconst (v := nI 0) C dX2_nextPosition_2 3 rfl (by decide) ?_
  refine q_istore_n C dX2_nextPosition_3 4 rfl [(2, .int (nI 0)), (1, .int (nI 0)), (0, .ref h0)] (by decide) rfl ?_
  have lp : ∀ (kk : Nat) (i : Nat) (n : Nat), ln.length - i < kk → ∀ (hi : i ≤ ln.length), ∀ (hn : n = k_sum (fun i => k_wd (k_la ln i).1 + 1) i), q_V p9 l e9 R s9 m9 args below meth c9 D A 3 Q 0 0 4 [(2, .int (nI i)), (1, .int (nI n)), (0, .ref h0)] [] [[(h0, .inr (2, [.ref hs, .ref hl, .int (nI ln.length)])), (hs, .inl (cI, 72, .inl f1)), (hl, .inl (cI, 72, .inl f2))]] := by
    intro kk
    induction kk with
    | zero => intro i n hkk; exact absurd hkk (Nat.not_lt_zero _)
    | succ kk ih_lp =>
      intro i n hkk hi hn
      refine q_iload_n C dX2_nextPosition_4 5 0 rfl rfl ?_
      refine q_aload_n C dX2_nextPosition_5 6 2 rfl rfl ?_
      refine q_get (k := 0) (j := 0) (f := 2) C hinX2 f18 (fun _ h => h) (by decide) rfl dX2_nextPosition_6 9 rfl rfl rfl rfl ?_
      refine q_icmp_ge C dX2_nextPosition_9 12 31 rfl (by decide) (nI_leI (by omega) (by omega)) (fun h9 => ?_) (fun h9 => ?_)
      · refine q_iload_n C dX2_nextPosition_31 32 1 rfl rfl ?_
        exact q_iret C B dX2_nextPosition_32 rfl rfl (fun t0 ht0 => ⟨by rw [hn, show i = ln.length by omega]; rfl, rfl⟩)
      · refine q_iload_n C dX2_nextPosition_12 13 1 rfl rfl ?_
        refine q_aload_n C dX2_nextPosition_13 14 2 rfl rfl ?_
        refine q_iload_n C dX2_nextPosition_14 15 0 rfl rfl ?_
        refine q_callV (k := 0) (ci := 2) (n := 1) (rest := [.int (nI n)]) (Rr := []) C rfl (k_isL_recv hL) rfl (c_X2_sortAt l hZ hI h0 ln ([(h0, .inr (2, [.ref hs, .ref hl, .int (nI ln.length)])), (hs, .inl (cI, 72, .inl f1)), (hl, .inl (cI, 72, .inl f2))]) hL i (by omega)) gX2_nextPosition_X2_sortAt rfl rfl rfl (by decide +kernel) B.1 ⟨Nat.le_of_ble_eq_true rfl, Nat.le_of_ble_eq_true rfl⟩ rfl rfl (Nat.le_of_ble_eq_true rfl) dX2_nextPosition_15 ⟨Nat.le_of_ble_eq_true rfl, Nat.le_of_ble_eq_true rfl⟩ [0] [] (by decide : ([0] ++ ([] : List Nat)).Perm (List.range 1)) rfl rfl 18 rfl (fun v0 R0 t0 ht0 hp0 => ?_)
        obtain ⟨rfl, rfl⟩ := hp0
        refine q_eqs (st' := [.int (nI ((k_la ln i).1)), .int (nI n)]) rfl ?_
        refine q_eqR (Rs' := [[(h0, .inr (2, [.ref hs, .ref hl, .int (nI ln.length)])), (hs, .inl (cI, 72, .inl f1)), (hl, .inl (cI, 72, .inl f2))]]) rfl ?_
        have ht15 : (k_la ln i).1 < 12 := (k_la_lt hL.1 (by omega)).1
        refine q_callSN (n := 1) (rest := [.int (nI n)]) (Rr := [[(h0, .inr (2, [.ref hs, .ref hl, .int (nI ln.length)])), (hs, .inl (cI, 72, .inl f1)), (hl, .inl (cI, 72, .inl f2))]]) C (c_X6_widthOf l hZ hI ((k_la ln i).1) (by omega)) gX2_nextPosition_X6_widthOf_n33 rfl rfl rfl nst_X6_widthOf iniX6 (sta_X6_widthOf) (by decide +kernel) B.1 ⟨Nat.le_of_ble_eq_true rfl, Nat.le_of_ble_eq_true rfl⟩ rfl rfl (Nat.le_of_ble_eq_true rfl) dX2_nextPosition_18 ⟨Nat.le_of_ble_eq_true rfl, Nat.le_of_ble_eq_true rfl⟩ [] [0] (by decide : ([] ++ ([0] : List Nat)).Perm (List.range 1)) rfl rfl 21 rfl (fun v0 R0 t0 ht0 hp0 => ?_)
        obtain ⟨rfl, rfl⟩ := hp0
        refine q_eqs (st' := [.int (nI (k_wd ((k_la ln i).1))), .int (nI n)]) rfl ?_
        refine q_eqR (Rs' := [[(h0, .inr (2, [.ref hs, .ref hl, .int (nI ln.length)])), (hs, .inl (cI, 72, .inl f1)), (hl, .inl (cI, 72, .inl f2))]]) rfl ?_
        have hw18 : k_wd ((k_la ln i).1) ≤ 4 := (k_wd_le _).2
        refine q_iconst (v := nI 1) C dX2_nextPosition_21 22 rfl (by decide) ?_
        refine q_iadd (v := nI (k_wd ((k_la ln i).1) + 1)) C dX2_nextPosition_22 23 rfl (q_nadd (by omega)) ?_
        refine q_iadd (v := nI (n + k_wd ((k_la ln i).1) + 1)) C dX2_nextPosition_23 24 rfl (q_nadd (by omega)) ?_
        refine q_istore_n C dX2_nextPosition_24 25 rfl [(1, .int (nI (n + k_wd ((k_la ln i).1) + 1))), (2, .int (nI i)), (0, .ref h0)] (by decide) rfl ?_
        refine q_iinc (v := nI (i + 1)) C dX2_nextPosition_25 28 1 rfl rfl (q_ninc1 (by omega)) [(2, .int (nI (i + 1))), (1, .int (nI (n + k_wd ((k_la ln i).1) + 1))), (0, .ref h0)] (by decide) rfl ?_
        refine q_goto C dX2_nextPosition_28 4 (by decide) ?_
        refine q_sub (L' := [(2, .int (nI (i + 1))), (1, .int (nI (n + k_wd ((k_la ln i).1) + 1))), (0, .ref h0)]) [0, 1, 2] rfl ?_
        exact ih_lp (i + 1) (n + k_wd ((k_la ln i).1) + 1) (by omega) (by omega) (by rw [k_sum_s]; omega)
  refine q_sub (L' := [(2, .int (nI 0)), (1, .int (nI 0)), (0, .ref h0)]) [0, 1, 2] rfl ?_
  exact lp _ 0 0 (Nat.lt_succ_self _) (by omega) rfl

set_option maxHeartbeats 4000000 in
set_option maxRecDepth 100000 in
theorem c_X2_width (l : Launch) {D : va_G} {tys : List (ClassId × FieldType)} {Z : (Nat → Prop) → State → Heap → Prop} (hZ : q_St Z) {cI : ClassId} (hI : tys[0]? = some (cI, .int)) (hN : q_Ns Z) (h0 : Nat) (ln : List (Nat × Nat)) (w : va_W) (h : k_isL cI h0 ln w) : q_Ct l D tys Z yX2_width wsX2_width ({ frames := 3, cells := 0, slots := 0, locals := 102 } : Room) 0 0 [.ref h0] [w] (fun v0 R0 _ => v0 = some (.int (nI (k_np ln - 1))) ∧ R0 = [w]) := by
  have hcI := hI
  refine q_ct (cc := cX2_width) (maxL := 1) (ret := (some .int)) (own := RX2) (by decide) rfl hZ (Nat.le_of_ble_eq_true rfl) rfl ?_
  intro p9 e9 R s9 m9 args below meth c9 A Q C B
  have hts := C.2.2.2.2.1
  have hinX2 : ∀ w ∈ u_ws RX2 TX2 3, w ∈ wsX2_width := by decide +kernel
  have f18 := hts (.fieldLink RX2 18 "SortCases$Line" "length" "I") (by decide +kernel)
  refine q_eqL (L' := [(0, .ref h0)]) rfl ?_
  obtain ⟨hlok, hs, hl, f1, f2, hrel, rfl⟩ := h
  have hlen := hlok.1
  have hL : k_isL cI h0 ln [(h0, .inr (2, [.ref hs, .ref hl, .int (nI ln.length)])), (hs, .inl (cI, 72, .inl f1)), (hl, .inl (cI, 72, .inl f2))] := ⟨hlok, hs, hl, f1, f2, hrel, rfl⟩
  refine q_aload_n C dX2_width_0 1 0 rfl rfl ?_
  refine q_get (k := 0) (j := 0) (f := 2) C hinX2 f18 (fun _ h => h) (by decide) rfl dX2_width_1 4 rfl rfl rfl rfl ?_
  refine q_if_le C dX2_width_4 7 16 rfl (by decide) (q_le0 (by omega)) (fun h4 => ?_) (fun h4 => ?_)
  · refine q_iconst (v := nI 0) C dX2_width_16 17 rfl (by decide) ?_
    exact q_iret C B dX2_width_17 rfl rfl (fun t0 ht0 => ⟨by rw [show k_np ln - 1 = 0 by have := (k_np_le ln).2; omega], rfl⟩)
  · refine q_aload_n C dX2_width_7 8 0 rfl rfl ?_
    refine q_callV (k := 0) (ci := 2) (n := 0) (rest := []) (Rr := []) C rfl (k_isL_recv hL) rfl (c_X2_nextPosition l hZ hI hN h0 ln ([(h0, .inr (2, [.ref hs, .ref hl, .int (nI ln.length)])), (hs, .inl (cI, 72, .inl f1)), (hl, .inl (cI, 72, .inl f2))]) hL) gX2_width_X2_nextPosition rfl rfl rfl (by decide +kernel) B.1 ⟨Nat.le_of_ble_eq_true rfl, Nat.le_of_ble_eq_true rfl⟩ rfl rfl (Nat.le_of_ble_eq_true rfl) dX2_width_8 ⟨Nat.le_of_ble_eq_true rfl, Nat.le_of_ble_eq_true rfl⟩ [0] [] (by decide : ([0] ++ ([] : List Nat)).Perm (List.range 1)) rfl rfl 11 rfl (fun v0 R0 t0 ht0 hp0 => ?_)
    obtain ⟨rfl, rfl⟩ := hp0
    refine q_eqs (st' := [.int (nI (k_np ln))]) rfl ?_
    refine q_eqR (Rs' := [[(h0, .inr (2, [.ref hs, .ref hl, .int (nI ln.length)])), (hs, .inl (cI, 72, .inl f1)), (hl, .inl (cI, 72, .inl f2))]]) rfl ?_
    have hc8 : k_np ln ≤ 5 * (ln).length := (k_np_le _).2
    have hd8 : 3 * (ln).length ≤ k_np ln := (k_np_le _).1
    refine q_iconst (v := nI 1) C dX2_width_11 12 rfl (by decide) ?_
    refine q_isub (v := nI (k_np ln - 1)) C dX2_width_12 13 rfl (q_nsub (by omega) (by omega)) ?_
    refine q_goto C dX2_width_13 17 (by decide) ?_
    exact q_iret C B dX2_width_17 rfl rfl (fun t0 ht0 => ⟨rfl, rfl⟩)

