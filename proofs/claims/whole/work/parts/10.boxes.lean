set_option maxHeartbeats 4000000 in
set_option maxRecDepth 100000 in
theorem c_X0_heightOf (l : Launch) {D : va_G} {tys : List (ClassId × FieldType)} {Z : (Nat → Prop) → State → Heap → Prop} (hZ : q_St Z) {cI : ClassId} (hI : tys[0]? = some (cI, .int)) (h0 : Nat) (bx : k_Bx) (at0 : Nat) (w : va_W) (h : k_isB cI h0 bx at0 w) (b : Nat) (hb : b < 12) : q_Ct l D tys Z yX0_heightOf wsX0_heightOf ({ frames := 1, cells := 0, slots := 0, locals := 42 } : Room) 0 0 [.ref h0, .int (nI b)] [w] (fun v R _ => v = some (.int (nI ((bx b).length))) ∧ R = [w]) := by
  have hcI := hI
  refine q_ct (cc := cX0_heightOf) (maxL := 2) (ret := (some .int)) (own := RX0) (by decide) rfl hZ (by decide) rfl ?_
  intro p e R s m args below meth c A Q C B
  have hts := C.2.2.2.2.1
  have hinX0 : ∀ w ∈ u_ws RX0 TX0 3, w ∈ wsX0_heightOf := by decide +kernel
  have f15 := hts (.fieldLink RX0 15 "SortCases$Boxes" "heights" "[I") (by decide +kernel)
  refine q_eqL (L' := [(0, .ref h0), (1, .int (nI b))]) rfl ?_
  obtain ⟨hat, hok, hs, hh, fs, fh, hrel, rfl⟩ := h
  refine q_iload_n C dX0_heightOf_0 1 1 rfl rfl ?_
  refine q_if_lt C dX0_heightOf_1 4 22 rfl (by decide) (q_lt0 (by omega)) (fun h1 => False.elim (by first | omega | simp_all)) (fun h1 => ?_)
  refine q_iload_n C dX0_heightOf_4 5 1 rfl rfl ?_
  refine q_aload_n C dX0_heightOf_5 6 0 rfl rfl ?_
  refine q_get (k := 0) (j := 0) (f := 1) C hinX0 f15 (fun _ h => h) (by decide) rfl dX0_heightOf_6 9 rfl rfl rfl rfl ?_
  refine q_alen (k := 0) (j := 2) (v := nI 12) C dX0_heightOf_9 10 rfl rfl rfl hcI rfl ?_
  refine q_icmp_ge C dX0_heightOf_10 13 22 rfl (by decide) (nI_leI (by omega) (by omega)) (fun h10 => False.elim (by first | omega | simp_all)) (fun h10 => ?_)
  refine q_aload_n C dX0_heightOf_13 14 0 rfl rfl ?_
  refine q_get (k := 0) (j := 0) (f := 1) C hinX0 f15 (fun _ h => h) (by decide) rfl dX0_heightOf_14 17 rfl rfl rfl rfl ?_
  refine q_iload_n C dX0_heightOf_17 18 1 rfl rfl ?_
  refine q_iald (k := 0) (j := 2) (v := nI ((bx b).length)) C dX0_heightOf_18 19 rfl rfl rfl hcI b rfl (by omega) (by decide) (hrel b (by omega)).1 ?_
  have hlen18 : (bx b).length ≤ 20 := (hok b (by omega)).1
  refine q_goto C dX0_heightOf_19 23 (by decide) ?_
  exact q_iret C B dX0_heightOf_23 rfl rfl (fun t ht => ⟨rfl, rfl⟩)

set_option maxHeartbeats 4000000 in
set_option maxRecDepth 100000 in
theorem c_X0_hasRoom (l : Launch) {D : va_G} {tys : List (ClassId × FieldType)} {Z : (Nat → Prop) → State → Heap → Prop} (hZ : q_St Z) {cI : ClassId} (hI : tys[0]? = some (cI, .int)) (h0 : Nat) (bx : k_Bx) (at0 : Nat) (w : va_W) (h : k_isB cI h0 bx at0 w) (b : Nat) (hb : b < 12) : q_Ct l D tys Z yX0_hasRoom wsX0_hasRoom ({ frames := 1, cells := 0, slots := 0, locals := 42 } : Room) 0 0 [.ref h0, .int (nI b)] [w] (fun v R _ => v = some (.int (q_b (decide ((bx b).length < 20)))) ∧ R = [w]) := by
  have hcI := hI
  refine q_ct (cc := cX0_hasRoom) (maxL := 2) (ret := (some .boolean)) (own := RX0) (by decide) rfl hZ (by decide) rfl ?_
  intro p e R s m args below meth c A Q C B
  have hts := C.2.2.2.2.1
  have hinX0 : ∀ w ∈ u_ws RX0 TX0 3, w ∈ wsX0_hasRoom := by decide +kernel
  have f15 := hts (.fieldLink RX0 15 "SortCases$Boxes" "heights" "[I") (by decide +kernel)
  refine q_eqL (L' := [(0, .ref h0), (1, .int (nI b))]) rfl ?_
  obtain ⟨hat, hok, hs, hh, fs, fh, hrel, rfl⟩ := h
  refine q_iload_n C dX0_hasRoom_0 1 1 rfl rfl ?_
  refine q_if_lt C dX0_hasRoom_1 4 28 rfl (by decide) (q_lt0 (by omega)) (fun h1 => False.elim (by first | omega | simp_all)) (fun h1 => ?_)
  refine q_iload_n C dX0_hasRoom_4 5 1 rfl rfl ?_
  refine q_aload_n C dX0_hasRoom_5 6 0 rfl rfl ?_
  refine q_get (k := 0) (j := 0) (f := 1) C hinX0 f15 (fun _ h => h) (by decide) rfl dX0_hasRoom_6 9 rfl rfl rfl rfl ?_
  refine q_alen (k := 0) (j := 2) (v := nI 12) C dX0_hasRoom_9 10 rfl rfl rfl hcI rfl ?_
  refine q_icmp_ge C dX0_hasRoom_10 13 28 rfl (by decide) (nI_leI (by omega) (by omega)) (fun h10 => False.elim (by first | omega | simp_all)) (fun h10 => ?_)
  refine q_aload_n C dX0_hasRoom_13 14 0 rfl rfl ?_
  refine q_get (k := 0) (j := 0) (f := 1) C hinX0 f15 (fun _ h => h) (by decide) rfl dX0_hasRoom_14 17 rfl rfl rfl rfl ?_
  refine q_iload_n C dX0_hasRoom_17 18 1 rfl rfl ?_
  refine q_iald (k := 0) (j := 2) (v := nI ((bx b).length)) C dX0_hasRoom_18 19 rfl rfl rfl hcI b rfl (by omega) (by decide) (hrel b (by omega)).1 ?_
  have hlen18 : (bx b).length ≤ 20 := (hok b (by omega)).1
  refine q_bipush (v := nI 20) C dX0_hasRoom_19 21 rfl (by decide) ?_
  refine q_icmp_ge C dX0_hasRoom_21 24 28 rfl (by decide) (nI_leI (by omega) (by omega)) (fun h21 => ?_) (fun h21 => ?_)
  · refine q_iconst (v := nI 0) C dX0_hasRoom_28 29 rfl (by decide) ?_
    exact q_zret C B (by decide) dX0_hasRoom_29 rfl rfl (fun t ht => ⟨by first | rw [decide_eq_true (by omega : (bx b).length < 20)]; rfl | rw [decide_eq_false (by omega : ¬ (bx b).length < 20)]; rfl, rfl⟩)
  · refine q_iconst (v := nI 1) C dX0_hasRoom_24 25 rfl (by decide) ?_
    refine q_goto C dX0_hasRoom_25 29 (by decide) ?_
    exact q_zret C B (by decide) dX0_hasRoom_29 rfl rfl (fun t ht => ⟨by first | rw [decide_eq_true (by omega : (bx b).length < 20)]; rfl | rw [decide_eq_false (by omega : ¬ (bx b).length < 20)]; rfl, rfl⟩)

set_option maxHeartbeats 4000000 in
set_option maxRecDepth 100000 in
theorem c_X0_typeAt (l : Launch) {D : va_G} {tys : List (ClassId × FieldType)} {Z : (Nat → Prop) → State → Heap → Prop} (hZ : q_St Z) {cI : ClassId} (hI : tys[0]? = some (cI, .int)) (h0 : Nat) (bx : k_Bx) (at0 : Nat) (w : va_W) (h : k_isB cI h0 bx at0 w) (b : Nat) (d : Nat) (hb : b < 12) (hd : d < 2147483648) : q_Ct l D tys Z yX0_typeAt wsX0_typeAt ({ frames := 1, cells := 0, slots := 0, locals := 42 } : Room) 0 0 [.ref h0, .int (nI b), .int (nI d)] [w] (fun v R _ => v = some (.int (k_top bx b d)) ∧ R = [w]) := by
  have hcI := hI
  refine q_ct (cc := cX0_typeAt) (maxL := 4) (ret := (some .int)) (own := RX0) (by decide) rfl hZ (by decide) rfl ?_
  intro p e R s m args below meth c A Q C B
  have hts := C.2.2.2.2.1
  have hinX0 : ∀ w ∈ u_ws RX0 TX0 3, w ∈ wsX0_typeAt := by decide +kernel
  have f15 := hts (.fieldLink RX0 15 "SortCases$Boxes" "heights" "[I") (by decide +kernel)
  have f9 := hts (.fieldLink RX0 9 "SortCases$Boxes" "sorts" "[I") (by decide +kernel)
  refine q_eqL (L' := [(0, .ref h0), (1, .int (nI b)), (2, .int (nI d))]) rfl ?_
  obtain ⟨hat, hok, hs, hh, fs, fh, hrel, rfl⟩ := h
  refine q_iload_n C dX0_typeAt_0 1 1 rfl rfl ?_
  refine q_if_lt C dX0_typeAt_1 4 27 rfl (by decide) (q_lt0 (by omega)) (fun h1 => False.elim (by first | omega | simp_all)) (fun h1 => ?_)
  refine q_iload_n C dX0_typeAt_4 5 1 rfl rfl ?_
  refine q_aload_n C dX0_typeAt_5 6 0 rfl rfl ?_
  refine q_get (k := 0) (j := 0) (f := 1) C hinX0 f15 (fun _ h => h) (by decide) rfl dX0_typeAt_6 9 rfl rfl rfl rfl ?_
  refine q_alen (k := 0) (j := 2) (v := nI 12) C dX0_typeAt_9 10 rfl rfl rfl hcI rfl ?_
  refine q_icmp_ge C dX0_typeAt_10 13 27 rfl (by decide) (nI_leI (by omega) (by omega)) (fun h10 => False.elim (by first | omega | simp_all)) (fun h10 => ?_)
  refine q_iload_n C dX0_typeAt_13 14 2 rfl rfl ?_
  refine q_if_lt C dX0_typeAt_14 17 27 rfl (by decide) (q_lt0 (by omega)) (fun h14 => False.elim (by first | omega | simp_all)) (fun h14 => ?_)
  refine q_iload_n C dX0_typeAt_17 18 2 rfl rfl ?_
  refine q_aload_n C dX0_typeAt_18 19 0 rfl rfl ?_
  refine q_get (k := 0) (j := 0) (f := 1) C hinX0 f15 (fun _ h => h) (by decide) rfl dX0_typeAt_19 22 rfl rfl rfl rfl ?_
  refine q_iload_n C dX0_typeAt_22 23 1 rfl rfl ?_
  refine q_iald (k := 0) (j := 2) (v := nI ((bx b).length)) C dX0_typeAt_23 24 rfl rfl rfl hcI b rfl (by omega) (by decide) (hrel b (by omega)).1 ?_
  have hlen23 : (bx b).length ≤ 20 := (hok b (by omega)).1
  refine q_icmp_lt C dX0_typeAt_24 27 29 rfl (by decide) (nI_ltI (by omega) (by omega)) (fun h24 => ?_) (fun h24 => ?_)
  · refine q_iload_n C dX0_typeAt_29 30 1 rfl rfl ?_
    refine q_bipush (v := nI 20) C dX0_typeAt_30 32 rfl (by decide) ?_
    refine q_imul (v := nI (20 * b)) C dX0_typeAt_32 33 rfl (q_nmul (by omega)) ?_
    refine q_aload_n C dX0_typeAt_33 34 0 rfl rfl ?_
    refine q_get (k := 0) (j := 0) (f := 1) C hinX0 f15 (fun _ h => h) (by decide) rfl dX0_typeAt_34 37 rfl rfl rfl rfl ?_
    refine q_iload_n C dX0_typeAt_37 38 1 rfl rfl ?_
    refine q_iald (k := 0) (j := 2) (v := nI ((bx b).length)) C dX0_typeAt_38 39 rfl rfl rfl hcI b rfl (by omega) (by decide) (hrel b (by omega)).1 ?_
    have hlen38 : (bx b).length ≤ 20 := (hok b (by omega)).1
    refine q_iadd (v := nI (20 * b + (bx b).length)) C dX0_typeAt_39 40 rfl (q_nadd (by omega)) ?_
    refine q_iconst (v := nI 1) C dX0_typeAt_40 41 rfl (by decide) ?_
    refine q_isub (v := nI (20 * b + (bx b).length - 1)) C dX0_typeAt_41 42 rfl (q_nsub (by omega) (by omega)) ?_
    refine q_iload_n C dX0_typeAt_42 43 2 rfl rfl ?_
    refine q_isub (v := nI (20 * b + (bx b).length - 1 - d)) C dX0_typeAt_43 44 rfl (q_nsub (by omega) (by omega)) ?_
    refine q_istore_n C dX0_typeAt_44 45 rfl [(3, .int (nI (20 * b + (bx b).length - 1 - d))), (0, .ref h0), (1, .int (nI b)), (2, .int (nI d))] (by decide) rfl ?_
    refine q_iload_n C dX0_typeAt_45 46 0 rfl rfl ?_
    refine q_if_lt C dX0_typeAt_46 49 67 rfl (by decide) (q_lt0 (by omega)) (fun h46 => False.elim (by first | omega | simp_all)) (fun h46 => ?_)
    refine q_iload_n C dX0_typeAt_49 50 0 rfl rfl ?_
    refine q_aload_n C dX0_typeAt_50 51 1 rfl rfl ?_
    refine q_get (k := 0) (j := 0) (f := 0) C hinX0 f9 (fun _ h => h) (by decide) rfl dX0_typeAt_51 54 rfl rfl rfl rfl ?_
    refine q_alen (k := 0) (j := 1) (v := nI 240) C dX0_typeAt_54 55 rfl rfl rfl hcI rfl ?_
    refine q_icmp_ge C dX0_typeAt_55 58 67 rfl (by decide) (nI_leI (by omega) (by omega)) (fun h55 => False.elim (by first | omega | simp_all)) (fun h55 => ?_)
    refine q_aload_n C dX0_typeAt_58 59 1 rfl rfl ?_
    refine q_get (k := 0) (j := 0) (f := 0) C hinX0 f9 (fun _ h => h) (by decide) rfl dX0_typeAt_59 62 rfl rfl rfl rfl ?_
    refine q_iload_n C dX0_typeAt_62 63 0 rfl rfl ?_
    refine q_iald (k := 0) (j := 1) (v := nI (k_at (bx b) ((bx b).length - 1 - d))) C dX0_typeAt_63 64 rfl rfl rfl hcI (20 * b + (bx b).length - 1 - d) rfl (by omega) (by decide) (by rw [show 20 * b + (bx b).length - 1 - d = 20 * b + ((bx b).length - 1 - d) by omega]; exact (hrel b hb).2 _ (by omega)) ?_
    refine q_goto C dX0_typeAt_64 68 (by decide) ?_
    exact q_iret C B dX0_typeAt_68 rfl rfl (fun t ht => ⟨by first | rw [k_top_some (by omega)] | rw [k_top_none (by omega)], rfl⟩)
  · refine q_iconst (v := -1) C dX0_typeAt_27 28 rfl (by decide) ?_
    exact q_iret C B dX0_typeAt_28 rfl rfl (fun t ht => ⟨by first | rw [k_top_some (by omega)] | rw [k_top_none (by omega)], rfl⟩)

set_option maxHeartbeats 4000000 in
set_option maxRecDepth 100000 in
theorem c_X0_put (l : Launch) {D : va_G} {tys : List (ClassId × FieldType)} {Z : (Nat → Prop) → State → Heap → Prop} (hZ : q_St Z) {cI : ClassId} (hI : tys[0]? = some (cI, .int)) (h0 : Nat) (bx : k_Bx) (at0 : Nat) (w : va_W) (h : k_isB cI h0 bx at0 w) (b : Nat) (x : Nat) (hb : b < 12) (hl : (bx b).length < 20) (hx : x < 12) : q_Ct l D tys Z yX0_put wsX0_put ({ frames := 1, cells := 0, slots := 0, locals := 42 } : Room) 0 0 [.ref h0, .int (nI b), .int (nI x)] [w] (fun v R _ => v = none ∧ ∃ w', k_isB cI h0 (k_put bx b x) at0 w' ∧ R = [w']) := by
  have hcI := hI
  refine q_ct (cc := cX0_put) (maxL := 4) (ret := none) (own := RX0) (by decide) rfl hZ (by decide) rfl ?_
  intro p e R s m args below meth c A Q C B
  have hts := C.2.2.2.2.1
  have hinX0 : ∀ w ∈ u_ws RX0 TX0 3, w ∈ wsX0_put := by decide +kernel
  have f15 := hts (.fieldLink RX0 15 "SortCases$Boxes" "heights" "[I") (by decide +kernel)
  have f9 := hts (.fieldLink RX0 9 "SortCases$Boxes" "sorts" "[I") (by decide +kernel)
  refine q_eqL (L' := [(0, .ref h0), (1, .int (nI b)), (2, .int (nI x))]) rfl ?_
  obtain ⟨hat, hok, hs, hh, fs, fh, hrel, rfl⟩ := h
  refine q_iload_n C dX0_put_0 1 1 rfl rfl ?_
  refine q_if_lt C dX0_put_1 4 24 rfl (by decide) (q_lt0 (by omega)) (fun h1 => False.elim (by first | omega | simp_all)) (fun h1 => ?_)
  refine q_iload_n C dX0_put_4 5 1 rfl rfl ?_
  refine q_aload_n C dX0_put_5 6 0 rfl rfl ?_
  refine q_get (k := 0) (j := 0) (f := 1) C hinX0 f15 (fun _ h => h) (by decide) rfl dX0_put_6 9 rfl rfl rfl rfl ?_
  refine q_alen (k := 0) (j := 2) (v := nI 12) C dX0_put_9 10 rfl rfl rfl hcI rfl ?_
  refine q_icmp_ge C dX0_put_10 13 24 rfl (by decide) (nI_leI (by omega) (by omega)) (fun h10 => False.elim (by first | omega | simp_all)) (fun h10 => ?_)
  refine q_aload_n C dX0_put_13 14 0 rfl rfl ?_
  refine q_get (k := 0) (j := 0) (f := 1) C hinX0 f15 (fun _ h => h) (by decide) rfl dX0_put_14 17 rfl rfl rfl rfl ?_
  refine q_iload_n C dX0_put_17 18 1 rfl rfl ?_
  refine q_iald (k := 0) (j := 2) (v := nI ((bx b).length)) C dX0_put_18 19 rfl rfl rfl hcI b rfl (by omega) (by decide) (hrel b (by omega)).1 ?_
  have hlen18 : (bx b).length ≤ 20 := (hok b (by omega)).1
  refine q_bipush (v := nI 20) C dX0_put_19 21 rfl (by decide) ?_
  refine q_icmp_lt C dX0_put_21 24 25 rfl (by decide) (nI_ltI (by omega) (by omega)) (fun h21 => ?_) (fun h21 => False.elim (by first | omega | simp_all))
  refine q_iload_n C dX0_put_25 26 1 rfl rfl ?_
  refine q_bipush (v := nI 20) C dX0_put_26 28 rfl (by decide) ?_
  refine q_imul (v := nI (20 * b)) C dX0_put_28 29 rfl (q_nmul (by omega)) ?_
  refine q_aload_n C dX0_put_29 30 0 rfl rfl ?_
  refine q_get (k := 0) (j := 0) (f := 1) C hinX0 f15 (fun _ h => h) (by decide) rfl dX0_put_30 33 rfl rfl rfl rfl ?_
  refine q_iload_n C dX0_put_33 34 1 rfl rfl ?_
  refine q_iald (k := 0) (j := 2) (v := nI ((bx b).length)) C dX0_put_34 35 rfl rfl rfl hcI b rfl (by omega) (by decide) (hrel b (by omega)).1 ?_
  have hlen34 : (bx b).length ≤ 20 := (hok b (by omega)).1
  refine q_iadd (v := nI (20 * b + (bx b).length)) C dX0_put_35 36 rfl (q_nadd (by omega)) ?_
  refine q_istore_n C dX0_put_36 37 rfl [(3, .int (nI (20 * b + (bx b).length))), (0, .ref h0), (1, .int (nI b)), (2, .int (nI x))] (by decide) rfl ?_
  refine q_iload_n C dX0_put_37 38 0 rfl rfl ?_
  refine q_if_lt C dX0_put_38 41 67 rfl (by decide) (q_lt0 (by omega)) (fun h38 => False.elim (by first | omega | simp_all)) (fun h38 => ?_)
  refine q_iload_n C dX0_put_41 42 0 rfl rfl ?_
  refine q_aload_n C dX0_put_42 43 1 rfl rfl ?_
  refine q_get (k := 0) (j := 0) (f := 0) C hinX0 f9 (fun _ h => h) (by decide) rfl dX0_put_43 46 rfl rfl rfl rfl ?_
  refine q_alen (k := 0) (j := 1) (v := nI 240) C dX0_put_46 47 rfl rfl rfl hcI rfl ?_
  refine q_icmp_ge C dX0_put_47 50 67 rfl (by decide) (nI_leI (by omega) (by omega)) (fun h47 => False.elim (by first | omega | simp_all)) (fun h47 => ?_)
  refine q_aload_n C dX0_put_50 51 1 rfl rfl ?_
  refine q_get (k := 0) (j := 0) (f := 0) C hinX0 f9 (fun _ h => h) (by decide) rfl dX0_put_51 54 rfl rfl rfl rfl ?_
  refine q_iload_n C dX0_put_54 55 0 rfl rfl ?_
  refine q_iload_n C dX0_put_55 56 3 rfl rfl ?_
  refine q_iast (k := 0) (j := 1) C dX0_put_56 57 rfl rfl rfl hcI (20 * b + (bx b).length) rfl (by omega) (by decide) [[(h0, .inr (0, [.ref hs, .ref hh, .int (nI at0)])), (hs, .inl (cI, 240, .inl (upd fs (20 * b + (bx b).length) (nI x)))), (hh, .inl (cI, 12, .inl fh))]] rfl ?_
  refine q_aload_n C dX0_put_57 58 1 rfl rfl ?_
  refine q_get (k := 0) (j := 0) (f := 1) C hinX0 f15 (fun _ h => h) (by decide) rfl dX0_put_58 61 rfl rfl rfl rfl ?_
  refine q_iload_n C dX0_put_61 62 2 rfl rfl ?_
  refine q_dup2 C dX0_put_62 63 rfl rfl rfl ?_
  refine q_iald (k := 0) (j := 2) (v := nI ((bx b).length)) C dX0_put_63 64 rfl rfl rfl hcI b rfl (by omega) (by decide) (hrel b (by omega)).1 ?_
  have hlen63 : (bx b).length ≤ 20 := (hok b (by omega)).1
  refine q_iconst (v := nI 1) C dX0_put_64 65 rfl (by decide) ?_
  refine q_iadd (v := nI ((bx b).length + 1)) C dX0_put_65 66 rfl (q_nadd (by omega)) ?_
  refine q_iast (k := 0) (j := 2) C dX0_put_66 67 rfl rfl rfl hcI b rfl (by omega) (by decide) [[(h0, .inr (0, [.ref hs, .ref hh, .int (nI at0)])), (hs, .inl (cI, 240, .inl (upd fs (20 * b + (bx b).length) (nI x)))), (hh, .inl (cI, 12, .inl (upd fh b (nI ((bx b).length + 1)))))]] rfl ?_
  exact q_vret C B dX0_put_67 rfl rfl (fun t ht => ⟨rfl, _, ⟨hat, k_Bok_put hok hl hx, hs, hh, _, _, (k_BR_put hok hrel hb hl), rfl⟩, rfl⟩)
