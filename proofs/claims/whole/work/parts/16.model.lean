set_option maxHeartbeats 400000 in
set_option maxRecDepth 100000 in
theorem c_X7_thrown (l : Launch) {D : va_G} {tys : List (ClassId × FieldType)} {Z : (Nat → Prop) → State → Heap → Prop} (hZ : q_St Z) {cI : ClassId} (hI : tys[0]? = some (cI, .int)) (h0 : Nat) (aS : Nat) (aZ : Nat) (aV : Nat) (aN : Nat) (aU : Nat) (aD : Nat) (fd : Nat → Int32) (hh : Int64) (w : va_W) (h : k_isP cI h0 aS aZ aV aN aU aD fd hh w) : q_Ct l D tys Z yX7_thrown wsX7_thrown ({ frames := 1, cells := 0, slots := 0, locals := 42 } : Room) 0 0 [.ref h0] [w] (fun v0 R0 _ => v0 = some (.int (fd 0)) ∧ R0 = [w]) := by
  have hcI := hI
  refine q_ct (cc := cX7_thrown) (maxL := 1) (ret := (some .int)) (own := RX7) (by decide) rfl hZ (Nat.le_of_ble_eq_true rfl) rfl ?_
  intro p9 e9 R s9 m9 args below meth c9 A Q C B
  have hts := C.2.2.2.2.1
  have hinX7 : ∀ w ∈ u_ws RX7 TX7 16, w ∈ wsX7_thrown := by decide +kernel
  have f28 := hts (.fieldLink RX7 28 "SortCasesModel" "thrown" "I") (by decide +kernel)
  refine q_eqL (L' := [(0, .ref h0)]) rfl ?_
  refine q_aload_n C dX7_thrown_0 1 0 rfl rfl ?_
  obtain rfl := h
  have hPo1 : k_isP cI h0 aS aZ aV aN aU aD fd hh [(h0, .inr (6, [.int (fd 0), .ref aS, .ref aZ, .ref aV, .int (fd 4), .ref aN, .int (fd 6), .ref aU, .int (fd 8), .int (fd 9), .int (fd 10), .ref aD, .int (fd 12), .int (fd 13), .int (fd 14), .long hh]))] := rfl
  refine q_get (k := 0) (j := 0) (f := 0) C hinX7 f28 (fun _ h => h) (by decide) rfl dX7_thrown_1 4 rfl rfl rfl rfl ?_
  exact q_iret C B dX7_thrown_4 rfl rfl (fun t0 ht0 => ⟨rfl, rfl⟩)

set_option maxHeartbeats 400000 in
set_option maxRecDepth 100000 in
theorem c_X7_in (l : Launch) {D : va_G} {tys : List (ClassId × FieldType)} {Z : (Nat → Prop) → State → Heap → Prop} (hZ : q_St Z) {cI : ClassId} (hI : tys[0]? = some (cI, .int)) (v : Int32) (lo : Int32) (hi : Int32) : q_Ct l D tys Z yX7_in wsX7_in ({ frames := 1, cells := 0, slots := 0, locals := 42 } : Room) 0 0 [.int v, .int lo, .int hi] [] (fun v0 R0 _ => v0 = some (.int (q_b (decide (lo ≤ v ∧ v ≤ hi)))) ∧ R0 = []) := by
  have hcI := hI
  refine q_ct (cc := cX7_in) (maxL := 3) (ret := (some .boolean)) (own := RX7) (by decide) rfl hZ (Nat.le_of_ble_eq_true rfl) rfl ?_
  intro p9 e9 R s9 m9 args below meth c9 A Q C B
  have hts := C.2.2.2.2.1
  refine q_eqL (L' := [(0, .int v), (1, .int lo), (2, .int hi)]) rfl ?_
  refine q_iload_n C dX7_in_0 1 0 rfl rfl ?_
  refine q_iload_n C dX7_in_1 2 1 rfl rfl ?_
  refine q_icmp_lt C dX7_in_2 5 14 rfl (by decide) Iff.rfl (fun h2 => ?_) (fun h2 => ?_)
  · refine q_iconst (v := nI 0) C dX7_in_14 15 rfl (by decide) ?_
    exact q_zret C B (by decide) dX7_in_15 rfl rfl (fun t0 ht0 => ⟨by first | rw [decide_eq_true ⟨Int32.not_lt.mp h2, Int32.not_lt.mp h7⟩]; rfl | rw [decide_eq_false (fun z => absurd z.1 (Int32.not_le.mpr h2))]; rfl | rw [decide_eq_false (fun z => absurd z.2 (Int32.not_le.mpr h7))]; rfl, rfl⟩)
  · refine q_iload_n C dX7_in_5 6 0 rfl rfl ?_
    refine q_iload_n C dX7_in_6 7 2 rfl rfl ?_
    refine q_icmp_gt C dX7_in_7 10 14 rfl (by decide) Iff.rfl (fun h7 => ?_) (fun h7 => ?_)
    · refine q_iconst (v := nI 0) C dX7_in_14 15 rfl (by decide) ?_
      exact q_zret C B (by decide) dX7_in_15 rfl rfl (fun t0 ht0 => ⟨by first | rw [decide_eq_true ⟨Int32.not_lt.mp h2, Int32.not_lt.mp h7⟩]; rfl | rw [decide_eq_false (fun z => absurd z.1 (Int32.not_le.mpr h2))]; rfl | rw [decide_eq_false (fun z => absurd z.2 (Int32.not_le.mpr h7))]; rfl, rfl⟩)
    · refine q_iconst (v := nI 1) C dX7_in_10 11 rfl (by decide) ?_
      refine q_goto C dX7_in_11 15 (by decide) ?_
      exact q_zret C B (by decide) dX7_in_15 rfl rfl (fun t0 ht0 => ⟨by first | rw [decide_eq_true ⟨Int32.not_lt.mp h2, Int32.not_lt.mp h7⟩]; rfl | rw [decide_eq_false (fun z => absurd z.1 (Int32.not_le.mpr h2))]; rfl | rw [decide_eq_false (fun z => absurd z.2 (Int32.not_le.mpr h7))]; rfl, rfl⟩)

set_option maxHeartbeats 400000 in
set_option maxRecDepth 100000 in
theorem c_X7_fails (l : Launch) {D : va_G} {tys : List (ClassId × FieldType)} {Z : (Nat → Prop) → State → Heap → Prop} (hZ : q_St Z) {cI : ClassId} (hI : tys[0]? = some (cI, .int)) (h0 : Nat) (aS : Nat) (aZ : Nat) (aV : Nat) (aN : Nat) (aU : Nat) (aD : Nat) (fd : Nat → Int32) (hh : Int64) (w : va_W) (h : k_isP cI h0 aS aZ aV aN aU aD fd hh w) (v : Int32) : q_Ct l D tys Z yX7_fails wsX7_fails ({ frames := 1, cells := 0, slots := 0, locals := 42 } : Room) 0 0 [.ref h0, .int v] [w] (fun v0 R0 _ => v0 = some (.int (nI 0)) ∧ ∃ w', k_isP cI h0 aS aZ aV aN aU aD (upd fd 0 v) hh w' ∧ R0 = [w']) := by
  have hcI := hI
  refine q_ct (cc := cX7_fails) (maxL := 2) (ret := (some .int)) (own := RX7) (by decide) rfl hZ (Nat.le_of_ble_eq_true rfl) rfl ?_
  intro p9 e9 R s9 m9 args below meth c9 A Q C B
  have hts := C.2.2.2.2.1
  have hinX7 : ∀ w ∈ u_ws RX7 TX7 16, w ∈ wsX7_fails := by decide +kernel
  have f28 := hts (.fieldLink RX7 28 "SortCasesModel" "thrown" "I") (by decide +kernel)
  refine q_eqL (L' := [(0, .ref h0), (1, .int v)]) rfl ?_
  refine q_aload_n C dX7_fails_0 1 0 rfl rfl ?_
  refine q_iload_n C dX7_fails_1 2 1 rfl rfl ?_
  obtain rfl := h
  have hPo1 : k_isP cI h0 aS aZ aV aN aU aD fd hh [(h0, .inr (6, [.int (fd 0), .ref aS, .ref aZ, .ref aV, .int (fd 4), .ref aN, .int (fd 6), .ref aU, .int (fd 8), .int (fd 9), .int (fd 10), .ref aD, .int (fd 12), .int (fd 13), .int (fd 14), .long hh]))] := rfl
  refine q_put (k := 0) (j := 0) (f := 0) C hinX7 tyX7 tyX7_ok nmX7 f28 (fun _ h => h) (by decide) rfl rfl (tyX7_ok 0 (by decide)) rfl rfl dX7_fails_2 5 rfl rfl rfl (Nat.le_of_ble_eq_true rfl) [[(h0, .inr (6, [.int v, .ref aS, .ref aZ, .ref aV, .int (fd 4), .ref aN, .int (fd 6), .ref aU, .int (fd 8), .int (fd 9), .int (fd 10), .ref aD, .int (fd 12), .int (fd 13), .int (fd 14), .long hh]))]] rfl ?_
  have hPp2 : k_isP cI h0 aS aZ aV aN aU aD (upd fd 0 v) hh [(h0, .inr (6, [.int v, .ref aS, .ref aZ, .ref aV, .int (fd 4), .ref aN, .int (fd 6), .ref aU, .int (fd 8), .int (fd 9), .int (fd 10), .ref aD, .int (fd 12), .int (fd 13), .int (fd 14), .long hh]))] := rfl
  refine q_iconst (v := nI 0) C dX7_fails_5 6 rfl (by decide) ?_
  exact q_iret C B dX7_fails_6 rfl rfl (fun t0 ht0 => ⟨rfl, _, hPp2, rfl⟩)

set_option maxHeartbeats 400000 in
set_option maxRecDepth 100000 in
theorem c_X7_isBox (l : Launch) {D : va_G} {tys : List (ClassId × FieldType)} {Z : (Nat → Prop) → State → Heap → Prop} (hZ : q_St Z) {cI : ClassId} (hI : tys[0]? = some (cI, .int)) (v : Int32) : q_Ct l D tys Z yX7_isBox wsX7_isBox ({ frames := 2, cells := 0, slots := 0, locals := 72 } : Room) 0 0 [.int v] [] (fun v0 R0 _ => v0 = some (.int (q_b (decide (0 ≤ v ∧ v ≤ 11)))) ∧ R0 = []) := by
  have hcI := hI
  refine q_ct (cc := cX7_isBox) (maxL := 1) (ret := (some .boolean)) (own := RX7) (by decide) rfl hZ (Nat.le_of_ble_eq_true rfl) rfl ?_
  intro p9 e9 R s9 m9 args below meth c9 A Q C B
  have hts := C.2.2.2.2.1
  refine q_eqL (L' := [(0, .int v)]) rfl ?_
  refine q_iload_n C dX7_isBox_0 1 0 rfl rfl ?_
  refine q_iconst (v := nI 0) C dX7_isBox_1 2 rfl (by decide) ?_
  refine q_bipush (v := nI 11) C dX7_isBox_2 4 rfl (by decide) ?_
  refine q_callS (n := 3) (rest := []) (Rr := []) C (c_X7_in l hZ hI v (nI 0) (nI 11)) gX7_isBox_X7_in rfl rfl rfl (by decide +kernel) B.1 ⟨Nat.le_of_ble_eq_true rfl, Nat.le_of_ble_eq_true rfl⟩ rfl rfl (Nat.le_of_ble_eq_true rfl) dX7_isBox_4 ⟨Nat.le_of_ble_eq_true rfl, Nat.le_of_ble_eq_true rfl⟩ [] [] (by decide : ([] ++ ([] : List Nat)).Perm (List.range 0)) rfl rfl 7 rfl (fun v0 R0 t0 ht0 hp0 => ?_)
  obtain ⟨rfl, rfl⟩ := hp0
  refine q_eqs (st' := [.int (q_b (decide ((nI 0) ≤ v ∧ v ≤ (nI 11))))]) rfl ?_
  refine q_eqR (Rs' := []) rfl ?_
  exact q_zret C B (q_b_nar _) dX7_isBox_7 rfl rfl (fun t0 ht0 => ⟨rfl, rfl⟩)

set_option maxHeartbeats 400000 in
set_option maxRecDepth 100000 in
theorem c_X7_widthOf (l : Launch) {D : va_G} {tys : List (ClassId × FieldType)} {Z : (Nat → Prop) → State → Heap → Prop} (hZ : q_St Z) {cI : ClassId} (hI : tys[0]? = some (cI, .int)) (x : Nat) (hx : x < 12) : q_Ct l D tys Z yX7_widthOf wsX7_widthOf ({ frames := 1, cells := 0, slots := 0, locals := 42 } : Room) 0 0 [.int (nI x)] [] (fun v0 R0 _ => v0 = some (.int (nI (k_wd x))) ∧ R0 = []) := by
  have hcI := hI
  refine q_ct (cc := cX7_widthOf) (maxL := 1) (ret := (some .int)) (own := RX7) (by decide) rfl hZ (Nat.le_of_ble_eq_true rfl) rfl ?_
  intro p9 e9 R s9 m9 args below meth c9 A Q C B
  have hts := C.2.2.2.2.1
  refine q_eqL (L' := [(0, .int (nI x))]) rfl ?_
  refine q_iconst (v := nI 2) C dX7_widthOf_0 1 rfl (by decide) ?_
  refine q_iload_n C dX7_widthOf_1 2 0 rfl rfl ?_
  refine q_iconst (v := nI 3) C dX7_widthOf_2 3 rfl (by decide) ?_
  refine q_irem (v := nI ((x % 3))) C dX7_widthOf_3 4 rfl (q_nz (by omega) (by omega)) (pk_rem (by omega) (by omega) (by omega)) ?_
  refine q_iadd (v := nI ((x % 3) + 2)) C dX7_widthOf_4 5 rfl (q_nadd (by omega)) ?_
  exact q_iret C B dX7_widthOf_5 rfl rfl (fun t0 ht0 => ⟨by rw [show x % 3 + 2 = k_wd x from Nat.add_comm _ _], rfl⟩)

set_option maxHeartbeats 400000 in
set_option maxRecDepth 100000 in
theorem c_X7_many (l : Launch) {D : va_G} {tys : List (ClassId × FieldType)} {Z : (Nat → Prop) → State → Heap → Prop} (hZ : q_St Z) {cI : ClassId} (hI : tys[0]? = some (cI, .int)) (h0 : Nat) (aS : Nat) (aZ : Nat) (aV : Nat) (aN : Nat) (aU : Nat) (aD : Nat) (fd : Nat → Int32) (hh : Int64) (wP : va_W) (hP : k_isP cI h0 aS aZ aV aN aU aD fd hh wP) (f : Nat → Int32) (wR : va_W) (hR : k_isR cI aS f wR) (b : Nat) (hb : b < 12) : q_Ct l D tys Z yX7_many wsX7_many ({ frames := 1, cells := 0, slots := 0, locals := 42 } : Room) 0 0 [.ref h0, .int (nI b)] [wP, wR] (fun v0 R0 _ => v0 = some (.int (f (21 * b + 95))) ∧ R0 = [wP, wR]) := by
  have hcI := hI
  refine q_ct (cc := cX7_many) (maxL := 2) (ret := (some .int)) (own := RX7) (by decide) rfl hZ (Nat.le_of_ble_eq_true rfl) rfl ?_
  intro p9 e9 R s9 m9 args below meth c9 A Q C B
  have hts := C.2.2.2.2.1
  have hinX7 : ∀ w ∈ u_ws RX7 TX7 16, w ∈ wsX7_many := by decide +kernel
  have f7 := hts (.fieldLink RX7 7 "SortCasesModel" "s" "[I") (by decide +kernel)
  refine q_eqL (L' := [(0, .ref h0), (1, .int (nI b))]) rfl ?_
  refine q_aload_n C dX7_many_0 1 0 rfl rfl ?_
  obtain rfl := hP
  have hPo1 : k_isP cI h0 aS aZ aV aN aU aD fd hh [(h0, .inr (6, [.int (fd 0), .ref aS, .ref aZ, .ref aV, .int (fd 4), .ref aN, .int (fd 6), .ref aU, .int (fd 8), .int (fd 9), .int (fd 10), .ref aD, .int (fd 12), .int (fd 13), .int (fd 14), .long hh]))] := rfl
  refine q_get (k := 0) (j := 0) (f := 1) C hinX7 f7 (fun _ h => h) (by decide) rfl dX7_many_1 4 rfl rfl rfl rfl ?_
  refine q_bipush (v := nI 95) C dX7_many_4 6 rfl (by decide) ?_
  refine q_bipush (v := nI 21) C dX7_many_6 8 rfl (by decide) ?_
  refine q_iload_n C dX7_many_8 9 1 rfl rfl ?_
  refine q_imul (v := nI (21 * b)) C dX7_many_9 10 rfl (q_nmul (by omega)) ?_
  refine q_iadd (v := nI (21 * b + 95)) C dX7_many_10 11 rfl (q_nadd (by omega)) ?_
  obtain rfl := hR
  have hRo2 : k_isR cI aS f [(aS, .inl (cI, 350, .inl f))] := rfl
  refine q_iald (k := 1) (j := 0) (v := f (21 * b + 95)) C dX7_many_11 12 rfl rfl rfl hcI (21 * b + 95) rfl (by omega) (by decide) rfl ?_
  exact q_iret C B dX7_many_12 rfl rfl (fun t0 ht0 => ⟨rfl, rfl⟩)

set_option maxHeartbeats 400000 in
set_option maxRecDepth 100000 in
theorem c_X7_typeAt (l : Launch) {D : va_G} {tys : List (ClassId × FieldType)} {Z : (Nat → Prop) → State → Heap → Prop} (hZ : q_St Z) {cI : ClassId} (hI : tys[0]? = some (cI, .int)) (h0 : Nat) (aS : Nat) (aZ : Nat) (aV : Nat) (aN : Nat) (aU : Nat) (aD : Nat) (fd : Nat → Int32) (hh : Int64) (wP : va_W) (hP : k_isP cI h0 aS aZ aV aN aU aD fd hh wP) (f : Nat → Int32) (wR : va_W) (hR : k_isR cI aS f wR) (b : Nat) (k : Nat) (hb : b < 12) (hk : k < 20) : q_Ct l D tys Z yX7_typeAt wsX7_typeAt ({ frames := 1, cells := 0, slots := 0, locals := 42 } : Room) 0 0 [.ref h0, .int (nI b), .int (nI k)] [wP, wR] (fun v0 R0 _ => v0 = some (.int (f (21 * b + k + 96))) ∧ R0 = [wP, wR]) := by
  have hcI := hI
  refine q_ct (cc := cX7_typeAt) (maxL := 3) (ret := (some .int)) (own := RX7) (by decide) rfl hZ (Nat.le_of_ble_eq_true rfl) rfl ?_
  intro p9 e9 R s9 m9 args below meth c9 A Q C B
  have hts := C.2.2.2.2.1
  have hinX7 : ∀ w ∈ u_ws RX7 TX7 16, w ∈ wsX7_typeAt := by decide +kernel
  have f7 := hts (.fieldLink RX7 7 "SortCasesModel" "s" "[I") (by decide +kernel)
  refine q_eqL (L' := [(0, .ref h0), (1, .int (nI b)), (2, .int (nI k))]) rfl ?_
  refine q_aload_n C dX7_typeAt_0 1 0 rfl rfl ?_
  obtain rfl := hP
  have hPo1 : k_isP cI h0 aS aZ aV aN aU aD fd hh [(h0, .inr (6, [.int (fd 0), .ref aS, .ref aZ, .ref aV, .int (fd 4), .ref aN, .int (fd 6), .ref aU, .int (fd 8), .int (fd 9), .int (fd 10), .ref aD, .int (fd 12), .int (fd 13), .int (fd 14), .long hh]))] := rfl
  refine q_get (k := 0) (j := 0) (f := 1) C hinX7 f7 (fun _ h => h) (by decide) rfl dX7_typeAt_1 4 rfl rfl rfl rfl ?_
  refine q_bipush (v := nI 95) C dX7_typeAt_4 6 rfl (by decide) ?_
  refine q_bipush (v := nI 21) C dX7_typeAt_6 8 rfl (by decide) ?_
  refine q_iload_n C dX7_typeAt_8 9 1 rfl rfl ?_
  refine q_imul (v := nI (21 * b)) C dX7_typeAt_9 10 rfl (q_nmul (by omega)) ?_
  refine q_iadd (v := nI (21 * b + 95)) C dX7_typeAt_10 11 rfl (q_nadd (by omega)) ?_
  refine q_iconst (v := nI 1) C dX7_typeAt_11 12 rfl (by decide) ?_
  refine q_iadd (v := nI (21 * b + 96)) C dX7_typeAt_12 13 rfl (q_nadd (by omega)) ?_
  refine q_iload_n C dX7_typeAt_13 14 2 rfl rfl ?_
  refine q_iadd (v := nI (21 * b + k + 96)) C dX7_typeAt_14 15 rfl (q_nadd (by omega)) ?_
  obtain rfl := hR
  have hRo2 : k_isR cI aS f [(aS, .inl (cI, 350, .inl f))] := rfl
  refine q_iald (k := 1) (j := 0) (v := f (21 * b + k + 96)) C dX7_typeAt_15 16 rfl rfl rfl hcI (21 * b + k + 96) rfl (by omega) (by decide) rfl ?_
  exact q_iret C B dX7_typeAt_16 rfl rfl (fun t0 ht0 => ⟨rfl, rfl⟩)

theorem c_X7_many_q (l : Launch) {D : va_G} {tys : List (ClassId × FieldType)} {Z : (Nat → Prop) → State → Heap → Prop} (hZ : q_St Z) {cI : ClassId} (hI : tys[0]? = some (cI, .int)) (h0 : Nat) (aS : Nat) (aZ : Nat) (aV : Nat) (aN : Nat) (aU : Nat) (aD : Nat) (fd : Nat → Int32) (hh : Int64) (wP : va_W) (hP : k_isP cI h0 aS aZ aV aN aU aD fd hh wP) (bx : k_Bx) (at0 : Nat) (ln : List (Nat × Nat)) (sc : Nat → Int32) (wQ : va_W) (hQ : k_isQ cI aS bx at0 ln sc wQ) (b : Nat) (hb : b < 12) : q_Ct l D tys Z yX7_many wsX7_many ({ frames := 1, cells := 0, slots := 0, locals := 42 } : Room) 0 0 [.ref h0, .int (nI b)] [wP, wQ] (fun v0 R0 _ => v0 = some (.int (nI ((bx b).length))) ∧ R0 = [wP, wQ]) := by
  obtain ⟨hat, hok, hlok, f, hm, rfl⟩ := hQ
  have hll := hlok.1
  
  have h2 := c_X7_many (D := D) l hZ hI h0 aS aZ aV aN aU aD fd hh wP hP f [(aS, .inl (cI, 350, .inl f))] rfl b hb
  rw [(hm.2.2.2.2 b hb).1] at h2
  exact h2

theorem c_X7_typeAt_q (l : Launch) {D : va_G} {tys : List (ClassId × FieldType)} {Z : (Nat → Prop) → State → Heap → Prop} (hZ : q_St Z) {cI : ClassId} (hI : tys[0]? = some (cI, .int)) (h0 : Nat) (aS : Nat) (aZ : Nat) (aV : Nat) (aN : Nat) (aU : Nat) (aD : Nat) (fd : Nat → Int32) (hh : Int64) (wP : va_W) (hP : k_isP cI h0 aS aZ aV aN aU aD fd hh wP) (bx : k_Bx) (at0 : Nat) (ln : List (Nat × Nat)) (sc : Nat → Int32) (wQ : va_W) (hQ : k_isQ cI aS bx at0 ln sc wQ) (b : Nat) (k : Nat) (hb : b < 12) (hk : k < (bx b).length) : q_Ct l D tys Z yX7_typeAt wsX7_typeAt ({ frames := 1, cells := 0, slots := 0, locals := 42 } : Room) 0 0 [.ref h0, .int (nI b), .int (nI k)] [wP, wQ] (fun v0 R0 _ => v0 = some (.int (nI (k_at (bx b) k))) ∧ R0 = [wP, wQ]) := by
  obtain ⟨hat, hok, hlok, f, hm, rfl⟩ := hQ
  have hll := hlok.1
  
  have h2 := c_X7_typeAt (D := D) l hZ hI h0 aS aZ aV aN aU aD fd hh wP hP f [(aS, .inl (cI, 350, .inl f))] rfl b k hb (by have := (hok b hb).1; omega)
  rw [(hm.2.2.2.2 b hb).2 k hk] at h2
  exact h2

set_option maxHeartbeats 400000 in
set_option maxRecDepth 100000 in
theorem c_X7_upmost (l : Launch) {D : va_G} {tys : List (ClassId × FieldType)} {Z : (Nat → Prop) → State → Heap → Prop} (hZ : q_St Z) {cI : ClassId} (hI : tys[0]? = some (cI, .int)) (h0 : Nat) (aS : Nat) (aZ : Nat) (aV : Nat) (aN : Nat) (aU : Nat) (aD : Nat) (fd : Nat → Int32) (hh : Int64) (wP : va_W) (hP : k_isP cI h0 aS aZ aV aN aU aD fd hh wP) (bx : k_Bx) (at0 : Nat) (ln : List (Nat × Nat)) (sc : Nat → Int32) (wQ : va_W) (hQ : k_isQ cI aS bx at0 ln sc wQ) (b : Nat) (hb : b < 12) : q_Ct l D tys Z yX7_upmost wsX7_upmost ({ frames := 2, cells := 0, slots := 0, locals := 72 } : Room) 0 0 [.ref h0, .int (nI b)] [wP, wQ] (fun v0 R0 _ => v0 = some (.int (k_top bx b 0)) ∧ R0 = [wP, wQ]) := by
  have hcI := hI
  refine q_ct (cc := cX7_upmost) (maxL := 2) (ret := (some .int)) (own := RX7) (by decide) rfl hZ (Nat.le_of_ble_eq_true rfl) rfl ?_
  intro p9 e9 R s9 m9 args below meth c9 A Q C B
  have hts := C.2.2.2.2.1
  refine q_eqL (L' := [(0, .ref h0), (1, .int (nI b))]) rfl ?_
  refine q_aload_n C dX7_upmost_0 1 0 rfl rfl ?_
  refine q_iload_n C dX7_upmost_1 2 1 rfl rfl ?_
  refine q_callV (k := 0) (ci := 6) (n := 1) (rest := []) (Rr := []) C rfl (k_isP_recv hP) rfl (c_X7_many_q l hZ hI h0 aS aZ aV aN aU aD fd hh wP hP bx at0 ln sc wQ hQ b (by omega)) gX7_upmost_X7_many rfl rfl rfl (by decide +kernel) B.1 ⟨Nat.le_of_ble_eq_true rfl, Nat.le_of_ble_eq_true rfl⟩ rfl rfl (Nat.le_of_ble_eq_true rfl) dX7_upmost_2 ⟨Nat.le_of_ble_eq_true rfl, Nat.le_of_ble_eq_true rfl⟩ [0, 1] [] (by decide : ([0, 1] ++ ([] : List Nat)).Perm (List.range 2)) rfl rfl 5 rfl (fun v0 R0 t0 ht0 hp0 => ?_)
  obtain ⟨rfl, rfl⟩ := hp0
  refine q_eqs (st' := [.int (nI ((bx b).length))]) rfl ?_
  refine q_eqR (Rs' := [wP, wQ]) rfl ?_
  have hh2 : (bx b).length ≤ 20 := (hQ.2.1 b (by omega)).1
  refine q_if_ne C dX7_upmost_5 8 12 rfl (by decide) (q_eq0 (by omega)) (fun h5 => ?_) (fun h5 => ?_)
  · refine q_aload_n C dX7_upmost_12 13 0 rfl rfl ?_
    refine q_iload_n C dX7_upmost_13 14 1 rfl rfl ?_
    refine q_aload_n C dX7_upmost_14 15 0 rfl rfl ?_
    refine q_iload_n C dX7_upmost_15 16 1 rfl rfl ?_
    refine q_callV (k := 0) (ci := 6) (n := 1) (rest := [.int (nI b), .ref h0]) (Rr := []) C rfl (k_isP_recv hP) rfl (c_X7_many_q l hZ hI h0 aS aZ aV aN aU aD fd hh wP hP bx at0 ln sc wQ hQ b (by omega)) gX7_upmost_X7_many rfl rfl rfl (by decide +kernel) B.1 ⟨Nat.le_of_ble_eq_true rfl, Nat.le_of_ble_eq_true rfl⟩ rfl rfl (Nat.le_of_ble_eq_true rfl) dX7_upmost_16 ⟨Nat.le_of_ble_eq_true rfl, Nat.le_of_ble_eq_true rfl⟩ [0, 1] [] (by decide : ([0, 1] ++ ([] : List Nat)).Perm (List.range 2)) rfl rfl 19 rfl (fun v0 R0 t0 ht0 hp0 => ?_)
    obtain ⟨rfl, rfl⟩ := hp0
    refine q_eqs (st' := [.int (nI ((bx b).length)), .int (nI b), .ref h0]) rfl ?_
    refine q_eqR (Rs' := [wP, wQ]) rfl ?_
    have hh16 : (bx b).length ≤ 20 := (hQ.2.1 b (by omega)).1
    refine q_iconst (v := nI 1) C dX7_upmost_19 20 rfl (by decide) ?_
    refine q_isub (v := nI ((bx b).length - 1)) C dX7_upmost_20 21 rfl (q_nsub (by omega) (by omega)) ?_
    refine q_callV (k := 0) (ci := 6) (n := 2) (rest := []) (Rr := []) C rfl (k_isP_recv hP) rfl (c_X7_typeAt_q l hZ hI h0 aS aZ aV aN aU aD fd hh wP hP bx at0 ln sc wQ hQ b ((bx b).length - 1) (by omega) (by omega)) gX7_upmost_X7_typeAt rfl rfl rfl (by decide +kernel) B.1 ⟨Nat.le_of_ble_eq_true rfl, Nat.le_of_ble_eq_true rfl⟩ rfl rfl (Nat.le_of_ble_eq_true rfl) dX7_upmost_21 ⟨Nat.le_of_ble_eq_true rfl, Nat.le_of_ble_eq_true rfl⟩ [0, 1] [] (by decide : ([0, 1] ++ ([] : List Nat)).Perm (List.range 2)) rfl rfl 24 rfl (fun v0 R0 t0 ht0 hp0 => ?_)
    obtain ⟨rfl, rfl⟩ := hp0
    refine q_eqs (st' := [.int (nI (k_at (bx b) ((bx b).length - 1)))]) rfl ?_
    refine q_eqR (Rs' := [wP, wQ]) rfl ?_
    have ht21 : k_at (bx b) ((bx b).length - 1) < 12 := k_at_lt (hQ.2.1 b (by omega)).2 (by omega)
    exact q_iret C B dX7_upmost_24 rfl rfl (fun t0 ht0 => ⟨by first | (rw [k_top_some (by omega)] <;> rfl) | (rw [k_top_none (by omega)] <;> rfl), rfl⟩)
  · refine q_iconst (v := -1) C dX7_upmost_8 9 rfl (by decide) ?_
    refine q_goto C dX7_upmost_9 24 (by decide) ?_
    exact q_iret C B dX7_upmost_24 rfl rfl (fun t0 ht0 => ⟨by first | (rw [k_top_some (by omega)] <;> rfl) | (rw [k_top_none (by omega)] <;> rfl), rfl⟩)

set_option maxHeartbeats 400000 in
set_option maxRecDepth 100000 in
theorem c_X7_puts (l : Launch) {D : va_G} {tys : List (ClassId × FieldType)} {Z : (Nat → Prop) → State → Heap → Prop} (hZ : q_St Z) {cI : ClassId} (hI : tys[0]? = some (cI, .int)) (h0 : Nat) (aS : Nat) (aZ : Nat) (aV : Nat) (aN : Nat) (aU : Nat) (aD : Nat) (fd : Nat → Int32) (hh : Int64) (wP : va_W) (hP : k_isP cI h0 aS aZ aV aN aU aD fd hh wP) (bx : k_Bx) (at0 : Nat) (ln : List (Nat × Nat)) (sc : Nat → Int32) (wQ : va_W) (hQ : k_isQ cI aS bx at0 ln sc wQ) (b : Nat) (x : Nat) (hb : b < 12) (hl : (bx b).length < 20) (hx : x < 12) : q_Ct l D tys Z yX7_puts wsX7_puts ({ frames := 2, cells := 0, slots := 0, locals := 72 } : Room) 0 0 [.ref h0, .int (nI b), .int (nI x)] [wP, wQ] (fun v0 R0 _ => v0 = none ∧ ∃ wQ', k_isQ cI aS (k_put bx b x) at0 ln sc wQ' ∧ R0 = [wP, wQ']) := by
  have hcI := hI
  refine q_ct (cc := cX7_puts) (maxL := 3) (ret := none) (own := RX7) (by decide) rfl hZ (Nat.le_of_ble_eq_true rfl) rfl ?_
  intro p9 e9 R s9 m9 args below meth c9 A Q C B
  have hts := C.2.2.2.2.1
  have hinX7 : ∀ w ∈ u_ws RX7 TX7 16, w ∈ wsX7_puts := by decide +kernel
  have f7 := hts (.fieldLink RX7 7 "SortCasesModel" "s" "[I") (by decide +kernel)
  refine q_eqL (L' := [(0, .ref h0), (1, .int (nI b)), (2, .int (nI x))]) rfl ?_
  refine q_aload_n C dX7_puts_0 1 0 rfl rfl ?_
  obtain rfl := hP
  have hPo1 : k_isP cI h0 aS aZ aV aN aU aD fd hh [(h0, .inr (6, [.int (fd 0), .ref aS, .ref aZ, .ref aV, .int (fd 4), .ref aN, .int (fd 6), .ref aU, .int (fd 8), .int (fd 9), .int (fd 10), .ref aD, .int (fd 12), .int (fd 13), .int (fd 14), .long hh]))] := rfl
  refine q_get (k := 0) (j := 0) (f := 1) C hinX7 f7 (fun _ h => h) (by decide) rfl dX7_puts_1 4 rfl rfl rfl rfl ?_
  refine q_bipush (v := nI 95) C dX7_puts_4 6 rfl (by decide) ?_
  refine q_bipush (v := nI 21) C dX7_puts_6 8 rfl (by decide) ?_
  refine q_iload_n C dX7_puts_8 9 1 rfl rfl ?_
  refine q_imul (v := nI (21 * b)) C dX7_puts_9 10 rfl (q_nmul (by omega)) ?_
  refine q_iadd (v := nI (21 * b + 95)) C dX7_puts_10 11 rfl (q_nadd (by omega)) ?_
  refine q_iconst (v := nI 1) C dX7_puts_11 12 rfl (by decide) ?_
  refine q_iadd (v := nI (21 * b + 96)) C dX7_puts_12 13 rfl (q_nadd (by omega)) ?_
  refine q_aload_n C dX7_puts_13 14 0 rfl rfl ?_
  refine q_iload_n C dX7_puts_14 15 1 rfl rfl ?_
  refine q_callV (k := 0) (ci := 6) (n := 1) (rest := [.int (nI (21 * b + 96)), .ref aS]) (Rr := []) C rfl (k_isP_recv hPo1) rfl (c_X7_many_q l hZ hI h0 aS aZ aV aN aU aD fd hh ([(h0, .inr (6, [.int (fd 0), .ref aS, .ref aZ, .ref aV, .int (fd 4), .ref aN, .int (fd 6), .ref aU, .int (fd 8), .int (fd 9), .int (fd 10), .ref aD, .int (fd 12), .int (fd 13), .int (fd 14), .long hh]))]) hPo1 bx at0 ln sc wQ hQ b (by omega)) gX7_puts_X7_many rfl rfl rfl (by decide +kernel) B.1 ⟨Nat.le_of_ble_eq_true rfl, Nat.le_of_ble_eq_true rfl⟩ rfl rfl (Nat.le_of_ble_eq_true rfl) dX7_puts_15 ⟨Nat.le_of_ble_eq_true rfl, Nat.le_of_ble_eq_true rfl⟩ [0, 1] [] (by decide : ([0, 1] ++ ([] : List Nat)).Perm (List.range 2)) rfl rfl 18 rfl (fun v0 R0 t0 ht0 hp0 => ?_)
  obtain ⟨rfl, rfl⟩ := hp0
  refine q_eqs (st' := [.int (nI ((bx b).length)), .int (nI (21 * b + 96)), .ref aS]) rfl ?_
  refine q_eqR (Rs' := [[(h0, .inr (6, [.int (fd 0), .ref aS, .ref aZ, .ref aV, .int (fd 4), .ref aN, .int (fd 6), .ref aU, .int (fd 8), .int (fd 9), .int (fd 10), .ref aD, .int (fd 12), .int (fd 13), .int (fd 14), .long hh]))], wQ]) rfl ?_
  have hh15 : (bx b).length ≤ 20 := (hQ.2.1 b (by omega)).1
  refine q_iadd (v := nI (21 * b + (bx b).length + 96)) C dX7_puts_18 19 rfl (q_nadd (by omega)) ?_
  refine q_iload_n C dX7_puts_19 20 2 rfl rfl ?_
  obtain ⟨hat2, hok2, hlok2, f2, hm2, rfl⟩ := hQ
  have hll2 := hlok2.1
  have hQo2 : k_isQ cI aS bx at0 ln sc [(aS, .inl (cI, 350, .inl f2))] := ⟨hat2, hok2, hlok2, f2, hm2, rfl⟩
  refine q_iast (k := 1) (j := 0) C dX7_puts_20 21 rfl rfl rfl hcI (21 * b + (bx b).length + 96) rfl (by omega) (by decide) [[(h0, .inr (6, [.int (fd 0), .ref aS, .ref aZ, .ref aV, .int (fd 4), .ref aN, .int (fd 6), .ref aU, .int (fd 8), .int (fd 9), .int (fd 10), .ref aD, .int (fd 12), .int (fd 13), .int (fd 14), .long hh]))], [(aS, .inl (cI, 350, .inl (upd f2 (21 * b + (bx b).length + 96) (nI x))))]] rfl ?_
  refine q_aload_n C dX7_puts_21 22 0 rfl rfl ?_
  refine q_get (k := 0) (j := 0) (f := 1) C hinX7 f7 (fun _ h => h) (by decide) rfl dX7_puts_22 25 rfl rfl rfl rfl ?_
  refine q_bipush (v := nI 95) C dX7_puts_25 27 rfl (by decide) ?_
  refine q_bipush (v := nI 21) C dX7_puts_27 29 rfl (by decide) ?_
  refine q_iload_n C dX7_puts_29 30 1 rfl rfl ?_
  refine q_imul (v := nI (21 * b)) C dX7_puts_30 31 rfl (q_nmul (by omega)) ?_
  refine q_iadd (v := nI (21 * b + 95)) C dX7_puts_31 32 rfl (q_nadd (by omega)) ?_
  refine q_dup2 C dX7_puts_32 33 rfl rfl rfl ?_
  refine q_iald (k := 1) (j := 0) (v := nI ((bx b).length)) C dX7_puts_33 34 rfl rfl rfl hcI (21 * b + 95) rfl (by omega) (by decide) (by rw [pk_un (by omega)]; exact (hm2.2.2.2.2 b (by omega)).1) ?_
  have hlen33_1 : (bx b).length ≤ 20 := (hok2 b (by omega)).1
  refine q_iconst (v := nI 1) C dX7_puts_34 35 rfl (by decide) ?_
  refine q_iadd (v := nI ((bx b).length + 1)) C dX7_puts_35 36 rfl (q_nadd (by omega)) ?_
  refine q_iast (k := 1) (j := 0) C dX7_puts_36 37 rfl rfl rfl hcI (21 * b + 95) rfl (by omega) (by decide) [[(h0, .inr (6, [.int (fd 0), .ref aS, .ref aZ, .ref aV, .int (fd 4), .ref aN, .int (fd 6), .ref aU, .int (fd 8), .int (fd 9), .int (fd 10), .ref aD, .int (fd 12), .int (fd 13), .int (fd 14), .long hh]))], [(aS, .inl (cI, 350, .inl (upd (upd f2 (21 * b + (bx b).length + 96) (nI x)) (21 * b + 95) (nI ((bx b).length + 1)))))]] rfl ?_
  exact q_vret C B dX7_puts_37 rfl rfl (fun t0 ht0 => ⟨rfl, _, ⟨hat2, k_Bok_put hok2 hl hx, hlok2, _, k_MR_put hok2 hlok2 hm2 hb hl, rfl⟩, rfl⟩)

set_option maxHeartbeats 400000 in
set_option maxRecDepth 100000 in
theorem c_X7_takes (l : Launch) {D : va_G} {tys : List (ClassId × FieldType)} {Z : (Nat → Prop) → State → Heap → Prop} (hZ : q_St Z) {cI : ClassId} (hI : tys[0]? = some (cI, .int)) (h0 : Nat) (aS : Nat) (aZ : Nat) (aV : Nat) (aN : Nat) (aU : Nat) (aD : Nat) (fd : Nat → Int32) (hh : Int64) (wP : va_W) (hP : k_isP cI h0 aS aZ aV aN aU aD fd hh wP) (bx : k_Bx) (at0 : Nat) (ln : List (Nat × Nat)) (sc : Nat → Int32) (wQ : va_W) (hQ : k_isQ cI aS bx at0 ln sc wQ) (b : Nat) (k : Nat) (hb : b < 12) (hk : k < (bx b).length) : q_Ct l D tys Z yX7_takes wsX7_takes ({ frames := 2, cells := 0, slots := 0, locals := 72 } : Room) 0 0 [.ref h0, .int (nI b), .int (nI k)] [wP, wQ] (fun v0 R0 _ => v0 = some (.int (nI (k_at (bx b) k))) ∧ ∃ wQ', k_isQ cI aS (k_cut bx b k) at0 ln sc wQ' ∧ R0 = [wP, wQ']) := by
  have hcI := hI
  refine q_ct (cc := cX7_takes) (maxL := 5) (ret := (some .int)) (own := RX7) (by decide) rfl hZ (Nat.le_of_ble_eq_true rfl) rfl ?_
  intro p9 e9 R s9 m9 args below meth c9 A Q C B
  have hts := C.2.2.2.2.1
  have hinX7 : ∀ w ∈ u_ws RX7 TX7 16, w ∈ wsX7_takes := by decide +kernel
  have f7 := hts (.fieldLink RX7 7 "SortCasesModel" "s" "[I") (by decide +kernel)
  refine q_eqL (L' := [(0, .ref h0), (1, .int (nI b)), (2, .int (nI k))]) rfl ?_
  have hok := hQ.2.1
  have hlb := (hok b hb).1
  refine q_aload_n C dX7_takes_0 1 0 rfl rfl ?_
  refine q_iload_n C dX7_takes_1 2 1 rfl rfl ?_
  refine q_iload_n C dX7_takes_2 3 2 rfl rfl ?_
  refine q_callV (k := 0) (ci := 6) (n := 2) (rest := []) (Rr := []) C rfl (k_isP_recv hP) rfl (c_X7_typeAt_q l hZ hI h0 aS aZ aV aN aU aD fd hh wP hP bx at0 ln sc wQ hQ b k (by omega) (by omega)) gX7_takes_X7_typeAt rfl rfl rfl (by decide +kernel) B.1 ⟨Nat.le_of_ble_eq_true rfl, Nat.le_of_ble_eq_true rfl⟩ rfl rfl (Nat.le_of_ble_eq_true rfl) dX7_takes_3 ⟨Nat.le_of_ble_eq_true rfl, Nat.le_of_ble_eq_true rfl⟩ [0, 1] [] (by decide : ([0, 1] ++ ([] : List Nat)).Perm (List.range 2)) rfl rfl 6 rfl (fun v0 R0 t0 ht0 hp0 => ?_)
  obtain ⟨rfl, rfl⟩ := hp0
  refine q_eqs (st' := [.int (nI (k_at (bx b) k))]) rfl ?_
  refine q_eqR (Rs' := [wP, wQ]) rfl ?_
  have ht3 : k_at (bx b) k < 12 := k_at_lt (hQ.2.1 b (by omega)).2 (by omega)
  refine q_istore_n C dX7_takes_6 7 rfl [(3, .int (nI (k_at (bx b) k))), (0, .ref h0), (1, .int (nI b)), (2, .int (nI k))] (by decide) rfl ?_
  refine q_aload_n C dX7_takes_7 8 1 rfl rfl ?_
  obtain rfl := hP
  have hPo1 : k_isP cI h0 aS aZ aV aN aU aD fd hh [(h0, .inr (6, [.int (fd 0), .ref aS, .ref aZ, .ref aV, .int (fd 4), .ref aN, .int (fd 6), .ref aU, .int (fd 8), .int (fd 9), .int (fd 10), .ref aD, .int (fd 12), .int (fd 13), .int (fd 14), .long hh]))] := rfl
  refine q_get (k := 0) (j := 0) (f := 1) C hinX7 f7 (fun _ h => h) (by decide) rfl dX7_takes_8 11 rfl rfl rfl rfl ?_
  refine q_bipush (v := nI 95) C dX7_takes_11 13 rfl (by decide) ?_
  refine q_bipush (v := nI 21) C dX7_takes_13 15 rfl (by decide) ?_
  refine q_iload_n C dX7_takes_15 16 2 rfl rfl ?_
  refine q_imul (v := nI (21 * b)) C dX7_takes_16 17 rfl (q_nmul (by omega)) ?_
  refine q_iadd (v := nI (21 * b + 95)) C dX7_takes_17 18 rfl (q_nadd (by omega)) ?_
  refine q_dup2 C dX7_takes_18 19 rfl rfl rfl ?_
  obtain ⟨hat2, hok2, hlok2, f2, hm2, rfl⟩ := hQ
  have hll2 := hlok2.1
  have hQo2 : k_isQ cI aS bx at0 ln sc [(aS, .inl (cI, 350, .inl f2))] := ⟨hat2, hok2, hlok2, f2, hm2, rfl⟩
  refine q_iald (k := 1) (j := 0) (v := nI ((bx b).length)) C dX7_takes_19 20 rfl rfl rfl hcI (21 * b + 95) rfl (by omega) (by decide) ((hm2.2.2.2.2 b (by omega)).1) ?_
  have hlen19_1 : (bx b).length ≤ 20 := (hok2 b (by omega)).1
  refine q_iconst (v := nI 1) C dX7_takes_20 21 rfl (by decide) ?_
  refine q_isub (v := nI ((bx b).length - 1)) C dX7_takes_21 22 rfl (q_nsub (by omega) (by omega)) ?_
  refine q_iast (k := 1) (j := 0) C dX7_takes_22 23 rfl rfl rfl hcI (21 * b + 95) rfl (by omega) (by decide) [[(h0, .inr (6, [.int (fd 0), .ref aS, .ref aZ, .ref aV, .int (fd 4), .ref aN, .int (fd 6), .ref aU, .int (fd 8), .int (fd 9), .int (fd 10), .ref aD, .int (fd 12), .int (fd 13), .int (fd 14), .long hh]))], [(aS, .inl (cI, 350, .inl (upd f2 (21 * b + 95) (nI ((bx b).length - 1)))))]] rfl ?_
  have hRr2 : k_isR cI aS (upd f2 (21 * b + 95) (nI ((bx b).length - 1))) [(aS, .inl (cI, 350, .inl (upd f2 (21 * b + 95) (nI ((bx b).length - 1)))))] := rfl
  refine q_iload_n C dX7_takes_23 24 3 rfl rfl ?_
  refine q_istore C dX7_takes_24 26 rfl [(4, .int (nI k)), (3, .int (nI (k_at (bx b) k))), (0, .ref h0), (1, .int (nI b)), (2, .int (nI k))] (by decide) rfl ?_
  have lp : ∀ (kk : Nat) (i : Nat) (g : Nat → Int32), (bx b).length - i < kk → ∀ (hi1 : k ≤ i), ∀ (hi2 : i ≤ (bx b).length - 1), ∀ (hg2 : g (21 * b + 95) = nI ((bx b).length - 1)), ∀ (hg : ∀ q, q ≠ 21 * b + 95 → g q = if 21 * b + k + 96 ≤ q ∧ q < 21 * b + i + 96 then f2 (q + 1) else f2 q), q_V p9 l e9 R s9 m9 args below meth c9 D A 5 Q 0 0 26 [(4, .int (nI i)), (3, .int (nI (k_at (bx b) k))), (0, .ref h0), (1, .int (nI b)), (2, .int (nI k))] [] [[(h0, .inr (6, [.int (fd 0), .ref aS, .ref aZ, .ref aV, .int (fd 4), .ref aN, .int (fd 6), .ref aU, .int (fd 8), .int (fd 9), .int (fd 10), .ref aD, .int (fd 12), .int (fd 13), .int (fd 14), .long hh]))], [(aS, .inl (cI, 350, .inl g))]] := by
    intro kk
    induction kk with
    | zero => intro i g hkk; exact absurd hkk (Nat.not_lt_zero _)
    | succ kk ih_lp =>
      intro i g hkk hi1 hi2 hg2 hg
      refine q_iload C dX7_takes_26 28 0 rfl rfl ?_
      have hRg : k_isR cI aS g [(aS, .inl (cI, 350, .inl g))] := rfl
      refine q_aload_n C dX7_takes_28 29 2 rfl rfl ?_
      refine q_iload_n C dX7_takes_29 30 3 rfl rfl ?_
      refine q_callV (k := 0) (ci := 6) (n := 1) (rest := [.int (nI i)]) (Rr := []) C rfl (k_isP_recv hPo1) rfl (c_X7_many l hZ hI h0 aS aZ aV aN aU aD fd hh ([(h0, .inr (6, [.int (fd 0), .ref aS, .ref aZ, .ref aV, .int (fd 4), .ref aN, .int (fd 6), .ref aU, .int (fd 8), .int (fd 9), .int (fd 10), .ref aD, .int (fd 12), .int (fd 13), .int (fd 14), .long hh]))]) hPo1 g ([(aS, .inl (cI, 350, .inl g))]) hRg b (by omega)) gX7_takes_X7_many rfl rfl rfl (by decide +kernel) B.1 ⟨Nat.le_of_ble_eq_true rfl, Nat.le_of_ble_eq_true rfl⟩ rfl rfl (Nat.le_of_ble_eq_true rfl) dX7_takes_30 ⟨Nat.le_of_ble_eq_true rfl, Nat.le_of_ble_eq_true rfl⟩ [0, 1] [] (by decide : ([0, 1] ++ ([] : List Nat)).Perm (List.range 2)) rfl rfl 33 rfl (fun v0 R0 t0 ht0 hp0 => ?_)
      obtain ⟨rfl, rfl⟩ := hp0
      refine q_eqs (st' := [.int (g (21 * b + 95)), .int (nI i)]) rfl ?_
      refine q_eqR (Rs' := [[(h0, .inr (6, [.int (fd 0), .ref aS, .ref aZ, .ref aV, .int (fd 4), .ref aN, .int (fd 6), .ref aU, .int (fd 8), .int (fd 9), .int (fd 10), .ref aD, .int (fd 12), .int (fd 13), .int (fd 14), .long hh]))], [(aS, .inl (cI, 350, .inl g))]]) rfl ?_
      refine q_eqs (st' := [.int (nI ((bx b).length - 1)), .int (nI i)]) (by rw [hg2]) ?_
      refine q_icmp_ge C dX7_takes_33 36 68 rfl (by decide) (nI_leI (by omega) (by omega)) (fun h33 => ?_) (fun h33 => ?_)
      · obtain rfl : i = (bx b).length - 1 := by omega
        refine q_aload_n C dX7_takes_68 69 2 rfl rfl ?_
        refine q_get (k := 0) (j := 0) (f := 1) C hinX7 f7 (fun _ h => h) (by decide) rfl dX7_takes_69 72 rfl rfl rfl rfl ?_
        refine q_bipush (v := nI 95) C dX7_takes_72 74 rfl (by decide) ?_
        refine q_bipush (v := nI 21) C dX7_takes_74 76 rfl (by decide) ?_
        refine q_iload_n C dX7_takes_76 77 3 rfl rfl ?_
        refine q_imul (v := nI (21 * b)) C dX7_takes_77 78 rfl (q_nmul (by omega)) ?_
        refine q_iadd (v := nI (21 * b + 95)) C dX7_takes_78 79 rfl (q_nadd (by omega)) ?_
        refine q_iconst (v := nI 1) C dX7_takes_79 80 rfl (by decide) ?_
        refine q_iadd (v := nI (21 * b + 96)) C dX7_takes_80 81 rfl (q_nadd (by omega)) ?_
        refine q_aload_n C dX7_takes_81 82 2 rfl rfl ?_
        refine q_iload_n C dX7_takes_82 83 3 rfl rfl ?_
        refine q_callV (k := 0) (ci := 6) (n := 1) (rest := [.int (nI (21 * b + 96)), .ref aS]) (Rr := []) C rfl (k_isP_recv hPo1) rfl (c_X7_many l hZ hI h0 aS aZ aV aN aU aD fd hh ([(h0, .inr (6, [.int (fd 0), .ref aS, .ref aZ, .ref aV, .int (fd 4), .ref aN, .int (fd 6), .ref aU, .int (fd 8), .int (fd 9), .int (fd 10), .ref aD, .int (fd 12), .int (fd 13), .int (fd 14), .long hh]))]) hPo1 g ([(aS, .inl (cI, 350, .inl g))]) hRg b (by omega)) gX7_takes_X7_many rfl rfl rfl (by decide +kernel) B.1 ⟨Nat.le_of_ble_eq_true rfl, Nat.le_of_ble_eq_true rfl⟩ rfl rfl (Nat.le_of_ble_eq_true rfl) dX7_takes_83 ⟨Nat.le_of_ble_eq_true rfl, Nat.le_of_ble_eq_true rfl⟩ [0, 1] [] (by decide : ([0, 1] ++ ([] : List Nat)).Perm (List.range 2)) rfl rfl 86 rfl (fun v0 R0 t0 ht0 hp0 => ?_)
        obtain ⟨rfl, rfl⟩ := hp0
        refine q_eqs (st' := [.int (g (21 * b + 95)), .int (nI (21 * b + 96)), .ref aS]) rfl ?_
        refine q_eqR (Rs' := [[(h0, .inr (6, [.int (fd 0), .ref aS, .ref aZ, .ref aV, .int (fd 4), .ref aN, .int (fd 6), .ref aU, .int (fd 8), .int (fd 9), .int (fd 10), .ref aD, .int (fd 12), .int (fd 13), .int (fd 14), .long hh]))], [(aS, .inl (cI, 350, .inl g))]]) rfl ?_
        refine q_eqs (st' := [.int (nI ((bx b).length - 1)), .int (nI (21 * b + 96)), .ref aS]) (by rw [hg2]) ?_
        refine q_iadd (v := nI (21 * b + (bx b).length + 95)) C dX7_takes_86 87 rfl (q_nadd (by omega)) ?_
        refine q_iconst (v := nI 0) C dX7_takes_87 88 rfl (by decide) ?_
        refine q_iast (k := 1) (j := 0) C dX7_takes_88 89 rfl rfl rfl hcI (21 * b + (bx b).length + 95) rfl (by omega) (by decide) [[(h0, .inr (6, [.int (fd 0), .ref aS, .ref aZ, .ref aV, .int (fd 4), .ref aN, .int (fd 6), .ref aU, .int (fd 8), .int (fd 9), .int (fd 10), .ref aD, .int (fd 12), .int (fd 13), .int (fd 14), .long hh]))], [(aS, .inl (cI, 350, .inl (upd g (21 * b + (bx b).length + 95) (nI 0))))]] rfl ?_
        have hRs3 : k_isR cI aS (upd g (21 * b + (bx b).length + 95) (nI 0)) [(aS, .inl (cI, 350, .inl (upd g (21 * b + (bx b).length + 95) (nI 0))))] := rfl
        refine q_iload_n C dX7_takes_89 90 1 rfl rfl ?_
        exact q_iret C B dX7_takes_90 rfl rfl (fun t0 ht0 => ⟨rfl, _, ⟨hat2, k_Bok_cut hok, hlok2, _, k_MR_cut hok hlok2 hm2 hb hk (fun q h1 h2 => by rw [pk_un (by omega), hg q h2]; exact (Decidable.em (21 * b + k + 96 ≤ q ∧ q < 21 * b + ((bx b).length - 1) + 96)).elim (fun e => by rw [if_pos e, if_pos (by omega)]) (fun e => by rw [if_neg e, if_neg (by omega)])) (by rw [pk_un (by omega)]; exact hg2), rfl⟩, rfl⟩)
      · refine q_aload_n C dX7_takes_36 37 2 rfl rfl ?_
        refine q_get (k := 0) (j := 0) (f := 1) C hinX7 f7 (fun _ h => h) (by decide) rfl dX7_takes_37 40 rfl rfl rfl rfl ?_
        refine q_bipush (v := nI 95) C dX7_takes_40 42 rfl (by decide) ?_
        refine q_bipush (v := nI 21) C dX7_takes_42 44 rfl (by decide) ?_
        refine q_iload_n C dX7_takes_44 45 3 rfl rfl ?_
        refine q_imul (v := nI (21 * b)) C dX7_takes_45 46 rfl (q_nmul (by omega)) ?_
        refine q_iadd (v := nI (21 * b + 95)) C dX7_takes_46 47 rfl (q_nadd (by omega)) ?_
        refine q_iconst (v := nI 1) C dX7_takes_47 48 rfl (by decide) ?_
        refine q_iadd (v := nI (21 * b + 96)) C dX7_takes_48 49 rfl (q_nadd (by omega)) ?_
        refine q_iload C dX7_takes_49 51 0 rfl rfl ?_
        refine q_iadd (v := nI (21 * b + i + 96)) C dX7_takes_51 52 rfl (q_nadd (by omega)) ?_
        refine q_aload_n C dX7_takes_52 53 2 rfl rfl ?_
        refine q_iload_n C dX7_takes_53 54 3 rfl rfl ?_
        refine q_iload C dX7_takes_54 56 0 rfl rfl ?_
        refine q_iconst (v := nI 1) C dX7_takes_56 57 rfl (by decide) ?_
        refine q_iadd (v := nI (i + 1)) C dX7_takes_57 58 rfl (q_nadd (by omega)) ?_
        refine q_callV (k := 0) (ci := 6) (n := 2) (rest := [.int (nI (21 * b + i + 96)), .ref aS]) (Rr := []) C rfl (k_isP_recv hPo1) rfl (c_X7_typeAt l hZ hI h0 aS aZ aV aN aU aD fd hh ([(h0, .inr (6, [.int (fd 0), .ref aS, .ref aZ, .ref aV, .int (fd 4), .ref aN, .int (fd 6), .ref aU, .int (fd 8), .int (fd 9), .int (fd 10), .ref aD, .int (fd 12), .int (fd 13), .int (fd 14), .long hh]))]) hPo1 g ([(aS, .inl (cI, 350, .inl g))]) hRg b (i + 1) (by omega) (by omega)) gX7_takes_X7_typeAt rfl rfl rfl (by decide +kernel) B.1 ⟨Nat.le_of_ble_eq_true rfl, Nat.le_of_ble_eq_true rfl⟩ rfl rfl (Nat.le_of_ble_eq_true rfl) dX7_takes_58 ⟨Nat.le_of_ble_eq_true rfl, Nat.le_of_ble_eq_true rfl⟩ [0, 1] [] (by decide : ([0, 1] ++ ([] : List Nat)).Perm (List.range 2)) rfl rfl 61 rfl (fun v0 R0 t0 ht0 hp0 => ?_)
        obtain ⟨rfl, rfl⟩ := hp0
        refine q_eqs (st' := [.int (g (21 * b + (i + 1) + 96)), .int (nI (21 * b + i + 96)), .ref aS]) rfl ?_
        refine q_eqR (Rs' := [[(h0, .inr (6, [.int (fd 0), .ref aS, .ref aZ, .ref aV, .int (fd 4), .ref aN, .int (fd 6), .ref aU, .int (fd 8), .int (fd 9), .int (fd 10), .ref aD, .int (fd 12), .int (fd 13), .int (fd 14), .long hh]))], [(aS, .inl (cI, 350, .inl g))]]) rfl ?_
        refine q_iast (k := 1) (j := 0) C dX7_takes_61 62 rfl rfl rfl hcI (21 * b + i + 96) rfl (by omega) (by decide) [[(h0, .inr (6, [.int (fd 0), .ref aS, .ref aZ, .ref aV, .int (fd 4), .ref aN, .int (fd 6), .ref aU, .int (fd 8), .int (fd 9), .int (fd 10), .ref aD, .int (fd 12), .int (fd 13), .int (fd 14), .long hh]))], [(aS, .inl (cI, 350, .inl (upd g (21 * b + i + 96) (g (21 * b + (i + 1) + 96)))))]] rfl ?_
        have hRs4 : k_isR cI aS (upd g (21 * b + i + 96) (g (21 * b + (i + 1) + 96))) [(aS, .inl (cI, 350, .inl (upd g (21 * b + i + 96) (g (21 * b + (i + 1) + 96)))))] := rfl
        refine q_iinc (v := nI (i + 1)) C dX7_takes_62 65 0 rfl rfl (q_ninc1 (by omega)) [(4, .int (nI (i + 1))), (3, .int (nI (k_at (bx b) k))), (0, .ref h0), (1, .int (nI b)), (2, .int (nI k))] (by decide) rfl ?_
        refine q_goto C dX7_takes_65 26 (by decide) ?_
        refine q_sub (L' := [(4, .int (nI (i + 1))), (3, .int (nI (k_at (bx b) k))), (0, .ref h0), (1, .int (nI b)), (2, .int (nI k))]) [0, 1, 2, 3, 4] rfl ?_
        exact ih_lp (i + 1) (upd g (21 * b + i + 96) (g (21 * b + (i + 1) + 96))) (by omega) (by omega) (by omega) (by rw [pk_un (by omega)]; exact hg2) (fun q hq => (Decidable.em (q = 21 * b + i + 96)).elim (fun e => by subst e; rw [pk_us, if_pos (by omega)]; rw [hg _ (by omega), if_neg (by omega)]; exact congrArg f2 (by omega)) (fun e => by rw [pk_un e, hg _ hq]; exact (Decidable.em (21 * b + k + 96 ≤ q ∧ q < 21 * b + i + 96)).elim (fun e2 => by rw [if_pos e2, if_pos (by omega)]) (fun e2 => by rw [if_neg e2, if_neg (by omega)])))
  refine q_sub (L' := [(4, .int (nI k)), (3, .int (nI (k_at (bx b) k))), (0, .ref h0), (1, .int (nI b)), (2, .int (nI k))]) [0, 1, 2, 3, 4] rfl ?_
  exact lp _ k (upd f2 (21 * b + 95) (nI ((bx b).length - 1))) (Nat.lt_succ_self _) (by omega) (by omega) (by rw [pk_us]) (fun q hq => by rw [pk_un hq, if_neg (by omega)])
