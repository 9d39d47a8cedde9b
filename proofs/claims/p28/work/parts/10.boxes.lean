set_option maxHeartbeats 4000000 in
set_option maxRecDepth 100000 in
theorem c_X0_heightOf (l : Launch) {D : va_G} {tys : List (ClassId × FieldType)} {Z : (Nat → Prop) → State → Heap → Prop} (hZ : q_St Z) {cI : ClassId} (hI : tys[0]? = some (cI, .int)) (h0 : Nat) (bx : k_Bx) (at0 : Nat) (w : va_W) (h : k_isB cI h0 bx at0 w) (b : Nat) (hb : b < 12) : q_Ct l D tys Z yX0_heightOf wsX0_heightOf ({ frames := 1, cells := 0, slots := 0, locals := 42 } : Room) 0 0 [.ref h0, .int (nI b)] [w] (fun v0 R0 _ => v0 = some (.int (nI ((bx b).length))) ∧ R0 = [w]) := by
  have hcI := hI
  refine q_ct (cc := cX0_heightOf) (maxL := 2) (ret := (some .int)) (own := RX0) (by decide) rfl hZ (Nat.le_of_ble_eq_true rfl) rfl ?_
  intro p9 e9 R s9 m9 args below meth c9 A Q C B
  have hts := C.2.2.2.2.1
  have hinX0 : ∀ w ∈ u_ws RX0 TX0 3, w ∈ wsX0_heightOf := by decide +kernel
  have f15 := hts (.fieldLink RX0 15 "SortCases$Boxes" "heights" "[I") (by decide +kernel)
  refine q_eqL (L' := [(0, .ref h0), (1, .int (nI b))]) rfl ?_
  obtain ⟨hat, hok, hs, hh, fs, fh, hrel, rfl⟩ := h
  have hB : k_isB cI h0 bx at0 [(h0, .inr (0, [.ref hs, .ref hh, .int (nI at0)])), (hs, .inl (cI, 240, .inl fs)), (hh, .inl (cI, 12, .inl fh))] := ⟨hat, hok, hs, hh, fs, fh, hrel, rfl⟩
  refine q_iload_n C dX0_heightOf_0 1 1 rfl rfl ?_
  refine q_if_lt C dX0_heightOf_1 4 22 rfl (by decide) (q_lt0 (by omega)) (fun h1 => False.elim (by first | omega | simp_all)) (fun h1 => ?_)
  refine q_iload_n C dX0_heightOf_4 5 1 rfl rfl ?_
  refine q_aload_n C dX0_heightOf_5 6 0 rfl rfl ?_
  refine q_get (k := 0) (j := 0) (f := 1) C hinX0 f15 (fun _ h => h) (by decide) rfl dX0_heightOf_6 9 rfl rfl rfl rfl ?_
  refine q_alen (k := 0) (j := 2) (v := nI 12) C dX0_heightOf_9 10 rfl rfl rfl hcI rfl ?_
  refine q_icmp_ge C dX0_heightOf_10 13 22 rfl (by decide) (nI_leI (by omega) (by omega)) (fun h10 => False.elim (by first | omega | simp_all)) (fun h10 => ?_)
  refine q_aload_n C dX0_heightOf_13 14 0 rfl rfl ?_
  refine q_get (k := 0) (j := 0) (f := 1) C hinX0 f15 (fun _ h => h) (by decide) rfl dX0_heightOf_14 17 rfl rfl rfl rfl ?_
  refine q_iload_n C dX0_heightOf_17 18 1 rfl rfl ?_
  refine q_iald (k := 0) (j := 2) (v := nI ((bx b).length)) C dX0_heightOf_18 19 rfl rfl rfl hcI b rfl (by omega) (by decide) (hrel b (by omega)).1 ?_
  have hlen18 : (bx b).length ≤ 20 := (hok b (by omega)).1
  refine q_goto C dX0_heightOf_19 23 (by decide) ?_
  exact q_iret C B dX0_heightOf_23 rfl rfl (fun t0 ht0 => ⟨rfl, rfl⟩)

set_option maxHeartbeats 4000000 in
set_option maxRecDepth 100000 in
theorem c_X0_hasRoom (l : Launch) {D : va_G} {tys : List (ClassId × FieldType)} {Z : (Nat → Prop) → State → Heap → Prop} (hZ : q_St Z) {cI : ClassId} (hI : tys[0]? = some (cI, .int)) (h0 : Nat) (bx : k_Bx) (at0 : Nat) (w : va_W) (h : k_isB cI h0 bx at0 w) (b : Nat) (hb : b < 12) : q_Ct l D tys Z yX0_hasRoom wsX0_hasRoom ({ frames := 1, cells := 0, slots := 0, locals := 42 } : Room) 0 0 [.ref h0, .int (nI b)] [w] (fun v0 R0 _ => v0 = some (.int (q_b (decide ((bx b).length < 20)))) ∧ R0 = [w]) := by
  have hcI := hI
  refine q_ct (cc := cX0_hasRoom) (maxL := 2) (ret := (some .boolean)) (own := RX0) (by decide) rfl hZ (Nat.le_of_ble_eq_true rfl) rfl ?_
  intro p9 e9 R s9 m9 args below meth c9 A Q C B
  have hts := C.2.2.2.2.1
  have hinX0 : ∀ w ∈ u_ws RX0 TX0 3, w ∈ wsX0_hasRoom := by decide +kernel
  have f15 := hts (.fieldLink RX0 15 "SortCases$Boxes" "heights" "[I") (by decide +kernel)
  refine q_eqL (L' := [(0, .ref h0), (1, .int (nI b))]) rfl ?_
  obtain ⟨hat, hok, hs, hh, fs, fh, hrel, rfl⟩ := h
  have hB : k_isB cI h0 bx at0 [(h0, .inr (0, [.ref hs, .ref hh, .int (nI at0)])), (hs, .inl (cI, 240, .inl fs)), (hh, .inl (cI, 12, .inl fh))] := ⟨hat, hok, hs, hh, fs, fh, hrel, rfl⟩
  refine q_iload_n C dX0_hasRoom_0 1 1 rfl rfl ?_
  refine q_if_lt C dX0_hasRoom_1 4 28 rfl (by decide) (q_lt0 (by omega)) (fun h1 => False.elim (by first | omega | simp_all)) (fun h1 => ?_)
  refine q_iload_n C dX0_hasRoom_4 5 1 rfl rfl ?_
  refine q_aload_n C dX0_hasRoom_5 6 0 rfl rfl ?_
  refine q_get (k := 0) (j := 0) (f := 1) C hinX0 f15 (fun _ h => h) (by decide) rfl dX0_hasRoom_6 9 rfl rfl rfl rfl ?_
  refine q_alen (k := 0) (j := 2) (v := nI 12) C dX0_hasRoom_9 10 rfl rfl rfl hcI rfl ?_
  refine q_icmp_ge C dX0_hasRoom_10 13 28 rfl (by decide) (nI_leI (by omega) (by omega)) (fun h10 => False.elim (by first | omega | simp_all)) (fun h10 => ?_)
  refine q_aload_n C dX0_hasRoom_13 14 0 rfl rfl ?_
  refine q_get (k := 0) (j := 0) (f := 1) C hinX0 f15 (fun _ h => h) (by decide) rfl dX0_hasRoom_14 17 rfl rfl rfl rfl ?_
  refine q_iload_n C dX0_hasRoom_17 18 1 rfl rfl ?_
  refine q_iald (k := 0) (j := 2) (v := nI ((bx b).length)) C dX0_hasRoom_18 19 rfl rfl rfl hcI b rfl (by omega) (by decide) (hrel b (by omega)).1 ?_
  have hlen18 : (bx b).length ≤ 20 := (hok b (by omega)).1
  refine q_bipush (v := nI 20) C dX0_hasRoom_19 21 rfl (by decide) ?_
  refine q_icmp_ge C dX0_hasRoom_21 24 28 rfl (by decide) (nI_leI (by omega) (by omega)) (fun h21 => ?_) (fun h21 => ?_)
  · refine q_iconst (v := nI 0) C dX0_hasRoom_28 29 rfl (by decide) ?_
    exact q_zret C B (by decide) dX0_hasRoom_29 rfl rfl (fun t0 ht0 => ⟨by first | rw [decide_eq_true (by omega : (bx b).length < 20)]; rfl | rw [decide_eq_false (by omega : ¬ (bx b).length < 20)]; rfl, rfl⟩)
  · refine q_iconst (v := nI 1) C dX0_hasRoom_24 25 rfl (by decide) ?_
    refine q_goto C dX0_hasRoom_25 29 (by decide) ?_
    exact q_zret C B (by decide) dX0_hasRoom_29 rfl rfl (fun t0 ht0 => ⟨by first | rw [decide_eq_true (by omega : (bx b).length < 20)]; rfl | rw [decide_eq_false (by omega : ¬ (bx b).length < 20)]; rfl, rfl⟩)

set_option maxHeartbeats 4000000 in
set_option maxRecDepth 100000 in
theorem c_X0_typeAt (l : Launch) {D : va_G} {tys : List (ClassId × FieldType)} {Z : (Nat → Prop) → State → Heap → Prop} (hZ : q_St Z) {cI : ClassId} (hI : tys[0]? = some (cI, .int)) (h0 : Nat) (bx : k_Bx) (at0 : Nat) (w : va_W) (h : k_isB cI h0 bx at0 w) (b : Nat) (d : Nat) (hb : b < 12) (hd : d < 2147483648) : q_Ct l D tys Z yX0_typeAt wsX0_typeAt ({ frames := 1, cells := 0, slots := 0, locals := 42 } : Room) 0 0 [.ref h0, .int (nI b), .int (nI d)] [w] (fun v0 R0 _ => v0 = some (.int (k_top bx b d)) ∧ R0 = [w]) := by
  have hcI := hI
  refine q_ct (cc := cX0_typeAt) (maxL := 4) (ret := (some .int)) (own := RX0) (by decide) rfl hZ (Nat.le_of_ble_eq_true rfl) rfl ?_
  intro p9 e9 R s9 m9 args below meth c9 A Q C B
  have hts := C.2.2.2.2.1
  have hinX0 : ∀ w ∈ u_ws RX0 TX0 3, w ∈ wsX0_typeAt := by decide +kernel
  have f15 := hts (.fieldLink RX0 15 "SortCases$Boxes" "heights" "[I") (by decide +kernel)
  have f9 := hts (.fieldLink RX0 9 "SortCases$Boxes" "sorts" "[I") (by decide +kernel)
  refine q_eqL (L' := [(0, .ref h0), (1, .int (nI b)), (2, .int (nI d))]) rfl ?_
  obtain ⟨hat, hok, hs, hh, fs, fh, hrel, rfl⟩ := h
  have hB : k_isB cI h0 bx at0 [(h0, .inr (0, [.ref hs, .ref hh, .int (nI at0)])), (hs, .inl (cI, 240, .inl fs)), (hh, .inl (cI, 12, .inl fh))] := ⟨hat, hok, hs, hh, fs, fh, hrel, rfl⟩
  refine q_iload_n C dX0_typeAt_0 1 1 rfl rfl ?_
  refine q_if_lt C dX0_typeAt_1 4 27 rfl (by decide) (q_lt0 (by omega)) (fun h1 => False.elim (by first | omega | simp_all)) (fun h1 => ?_)
  refine q_iload_n C dX0_typeAt_4 5 1 rfl rfl ?_
  refine q_aload_n C dX0_typeAt_5 6 0 rfl rfl ?_
  refine q_get (k := 0) (j := 0) (f := 1) C hinX0 f15 (fun _ h => h) (by decide) rfl dX0_typeAt_6 9 rfl rfl rfl rfl ?_
  refine q_alen (k := 0) (j := 2) (v := nI 12) C dX0_typeAt_9 10 rfl rfl rfl hcI rfl ?_
  refine q_icmp_ge C dX0_typeAt_10 13 27 rfl (by decide) (nI_leI (by omega) (by omega)) (fun h10 => False.elim (by first | omega | simp_all)) (fun h10 => ?_)
  refine q_iload_n C dX0_typeAt_13 14 2 rfl rfl ?_
  refine q_if_lt C dX0_typeAt_14 17 27 rfl (by decide) (q_lt0 (by omega)) (fun h14 => False.elim (by first | omega | simp_all)) (fun h14 => ?_)
  refine q_iload_n C dX0_typeAt_17 18 2 rfl rfl ?_
  refine q_aload_n C dX0_typeAt_18 19 0 rfl rfl ?_
  refine q_get (k := 0) (j := 0) (f := 1) C hinX0 f15 (fun _ h => h) (by decide) rfl dX0_typeAt_19 22 rfl rfl rfl rfl ?_
  refine q_iload_n C dX0_typeAt_22 23 1 rfl rfl ?_
  refine q_iald (k := 0) (j := 2) (v := nI ((bx b).length)) C dX0_typeAt_23 24 rfl rfl rfl hcI b rfl (by omega) (by decide) (hrel b (by omega)).1 ?_
  have hlen23 : (bx b).length ≤ 20 := (hok b (by omega)).1
  refine q_icmp_lt C dX0_typeAt_24 27 29 rfl (by decide) (nI_ltI (by omega) (by omega)) (fun h24 => ?_) (fun h24 => ?_)
  · refine q_iload_n C dX0_typeAt_29 30 1 rfl rfl ?_
    refine q_bipush (v := nI 20) C dX0_typeAt_30 32 rfl (by decide) ?_
    refine q_imul (v := nI (20 * b)) C dX0_typeAt_32 33 rfl (q_nmul (by omega)) ?_
    refine q_aload_n C dX0_typeAt_33 34 0 rfl rfl ?_
    refine q_get (k := 0) (j := 0) (f := 1) C hinX0 f15 (fun _ h => h) (by decide) rfl dX0_typeAt_34 37 rfl rfl rfl rfl ?_
    refine q_iload_n C dX0_typeAt_37 38 1 rfl rfl ?_
    refine q_iald (k := 0) (j := 2) (v := nI ((bx b).length)) C dX0_typeAt_38 39 rfl rfl rfl hcI b rfl (by omega) (by decide) (hrel b (by omega)).1 ?_
    have hlen38 : (bx b).length ≤ 20 := (hok b (by omega)).1
    refine q_iadd (v := nI (20 * b + (bx b).length)) C dX0_typeAt_39 40 rfl (q_nadd (by omega)) ?_
    refine q_iconst (v := nI 1) C dX0_typeAt_40 41 rfl (by decide) ?_
    refine q_isub (v := nI (20 * b + (bx b).length - 1)) C dX0_typeAt_41 42 rfl (q_nsub (by omega) (by omega)) ?_
    refine q_iload_n C dX0_typeAt_42 43 2 rfl rfl ?_
    refine q_isub (v := nI (20 * b + (bx b).length - 1 - d)) C dX0_typeAt_43 44 rfl (q_nsub (by omega) (by omega)) ?_
    refine q_istore_n C dX0_typeAt_44 45 rfl [(3, .int (nI (20 * b + (bx b).length - 1 - d))), (0, .ref h0), (1, .int (nI b)), (2, .int (nI d))] (by decide) rfl ?_
    refine q_iload_n C dX0_typeAt_45 46 0 rfl rfl ?_
    refine q_if_lt C dX0_typeAt_46 49 67 rfl (by decide) (q_lt0 (by omega)) (fun h46 => False.elim (by first | omega | simp_all)) (fun h46 => ?_)
    refine q_iload_n C dX0_typeAt_49 50 0 rfl rfl ?_
    refine q_aload_n C dX0_typeAt_50 51 1 rfl rfl ?_
    refine q_get (k := 0) (j := 0) (f := 0) C hinX0 f9 (fun _ h => h) (by decide) rfl dX0_typeAt_51 54 rfl rfl rfl rfl ?_
    refine q_alen (k := 0) (j := 1) (v := nI 240) C dX0_typeAt_54 55 rfl rfl rfl hcI rfl ?_
    refine q_icmp_ge C dX0_typeAt_55 58 67 rfl (by decide) (nI_leI (by omega) (by omega)) (fun h55 => False.elim (by first | omega | simp_all)) (fun h55 => ?_)
    refine q_aload_n C dX0_typeAt_58 59 1 rfl rfl ?_
    refine q_get (k := 0) (j := 0) (f := 0) C hinX0 f9 (fun _ h => h) (by decide) rfl dX0_typeAt_59 62 rfl rfl rfl rfl ?_
    refine q_iload_n C dX0_typeAt_62 63 0 rfl rfl ?_
    refine q_iald (k := 0) (j := 1) (v := nI (k_at (bx b) ((bx b).length - 1 - d))) C dX0_typeAt_63 64 rfl rfl rfl hcI (20 * b + (bx b).length - 1 - d) rfl (by omega) (by decide) (by rw [show 20 * b + (bx b).length - 1 - d = 20 * b + ((bx b).length - 1 - d) by omega]; exact (hrel b hb).2 _ (by omega)) ?_
    refine q_goto C dX0_typeAt_64 68 (by decide) ?_
    exact q_iret C B dX0_typeAt_68 rfl rfl (fun t0 ht0 => ⟨by first | rw [k_top_some (by omega)] | rw [k_top_none (by omega)], rfl⟩)
  · refine q_iconst (v := -1) C dX0_typeAt_27 28 rfl (by decide) ?_
    exact q_iret C B dX0_typeAt_28 rfl rfl (fun t0 ht0 => ⟨by first | rw [k_top_some (by omega)] | rw [k_top_none (by omega)], rfl⟩)

theorem c_X0_typeAt_s (l : Launch) {D : va_G} {tys : List (ClassId × FieldType)} {Z : (Nat → Prop) → State → Heap → Prop} (hZ : q_St Z) {cI : ClassId} (hI : tys[0]? = some (cI, .int)) (h0 : Nat) (bx : k_Bx) (at0 : Nat) (w : va_W) (h : k_isB cI h0 bx at0 w) (b : Nat) (d : Nat) (hb : b < 12) (hd : d < (bx b).length) : q_Ct l D tys Z yX0_typeAt wsX0_typeAt ({ frames := 1, cells := 0, slots := 0, locals := 42 } : Room) 0 0 [.ref h0, .int (nI b), .int (nI d)] [w] (fun v0 R0 _ => v0 = some (.int (nI (k_at (bx b) ((bx b).length - 1 - d)))) ∧ R0 = [w]) := by
  have h1 := (h.2.1 b hb).1
  have h2 := c_X0_typeAt (D := D) l hZ hI h0 bx at0 w h b d hb (by omega)
  rw [k_top_some hd] at h2
  exact h2

set_option maxHeartbeats 4000000 in
set_option maxRecDepth 100000 in
theorem c_X0_put (l : Launch) {D : va_G} {tys : List (ClassId × FieldType)} {Z : (Nat → Prop) → State → Heap → Prop} (hZ : q_St Z) {cI : ClassId} (hI : tys[0]? = some (cI, .int)) (h0 : Nat) (bx : k_Bx) (at0 : Nat) (w : va_W) (h : k_isB cI h0 bx at0 w) (b : Nat) (x : Nat) (hb : b < 12) (hl : (bx b).length < 20) (hx : x < 12) : q_Ct l D tys Z yX0_put wsX0_put ({ frames := 1, cells := 0, slots := 0, locals := 42 } : Room) 0 0 [.ref h0, .int (nI b), .int (nI x)] [w] (fun v0 R0 _ => v0 = none ∧ ∃ w', k_isB cI h0 (k_put bx b x) at0 w' ∧ R0 = [w']) := by
  have hcI := hI
  refine q_ct (cc := cX0_put) (maxL := 4) (ret := none) (own := RX0) (by decide) rfl hZ (Nat.le_of_ble_eq_true rfl) rfl ?_
  intro p9 e9 R s9 m9 args below meth c9 A Q C B
  have hts := C.2.2.2.2.1
  have hinX0 : ∀ w ∈ u_ws RX0 TX0 3, w ∈ wsX0_put := by decide +kernel
  have f15 := hts (.fieldLink RX0 15 "SortCases$Boxes" "heights" "[I") (by decide +kernel)
  have f9 := hts (.fieldLink RX0 9 "SortCases$Boxes" "sorts" "[I") (by decide +kernel)
  refine q_eqL (L' := [(0, .ref h0), (1, .int (nI b)), (2, .int (nI x))]) rfl ?_
  obtain ⟨hat, hok, hs, hh, fs, fh, hrel, rfl⟩ := h
  have hB : k_isB cI h0 bx at0 [(h0, .inr (0, [.ref hs, .ref hh, .int (nI at0)])), (hs, .inl (cI, 240, .inl fs)), (hh, .inl (cI, 12, .inl fh))] := ⟨hat, hok, hs, hh, fs, fh, hrel, rfl⟩
  refine q_iload_n C dX0_put_0 1 1 rfl rfl ?_
  refine q_if_lt C dX0_put_1 4 24 rfl (by decide) (q_lt0 (by omega)) (fun h1 => False.elim (by first | omega | simp_all)) (fun h1 => ?_)
  refine q_iload_n C dX0_put_4 5 1 rfl rfl ?_
  refine q_aload_n C dX0_put_5 6 0 rfl rfl ?_
  refine q_get (k := 0) (j := 0) (f := 1) C hinX0 f15 (fun _ h => h) (by decide) rfl dX0_put_6 9 rfl rfl rfl rfl ?_
  refine q_alen (k := 0) (j := 2) (v := nI 12) C dX0_put_9 10 rfl rfl rfl hcI rfl ?_
  refine q_icmp_ge C dX0_put_10 13 24 rfl (by decide) (nI_leI (by omega) (by omega)) (fun h10 => False.elim (by first | omega | simp_all)) (fun h10 => ?_)
  refine q_aload_n C dX0_put_13 14 0 rfl rfl ?_
  refine q_get (k := 0) (j := 0) (f := 1) C hinX0 f15 (fun _ h => h) (by decide) rfl dX0_put_14 17 rfl rfl rfl rfl ?_
  refine q_iload_n C dX0_put_17 18 1 rfl rfl ?_
  refine q_iald (k := 0) (j := 2) (v := nI ((bx b).length)) C dX0_put_18 19 rfl rfl rfl hcI b rfl (by omega) (by decide) (hrel b (by omega)).1 ?_
  have hlen18 : (bx b).length ≤ 20 := (hok b (by omega)).1
  refine q_bipush (v := nI 20) C dX0_put_19 21 rfl (by decide) ?_
  refine q_icmp_lt C dX0_put_21 24 25 rfl (by decide) (nI_ltI (by omega) (by omega)) (fun h21 => ?_) (fun h21 => False.elim (by first | omega | simp_all))
  refine q_iload_n C dX0_put_25 26 1 rfl rfl ?_
  refine q_bipush (v := nI 20) C dX0_put_26 28 rfl (by decide) ?_
  refine q_imul (v := nI (20 * b)) C dX0_put_28 29 rfl (q_nmul (by omega)) ?_
  refine q_aload_n C dX0_put_29 30 0 rfl rfl ?_
  refine q_get (k := 0) (j := 0) (f := 1) C hinX0 f15 (fun _ h => h) (by decide) rfl dX0_put_30 33 rfl rfl rfl rfl ?_
  refine q_iload_n C dX0_put_33 34 1 rfl rfl ?_
  refine q_iald (k := 0) (j := 2) (v := nI ((bx b).length)) C dX0_put_34 35 rfl rfl rfl hcI b rfl (by omega) (by decide) (hrel b (by omega)).1 ?_
  have hlen34 : (bx b).length ≤ 20 := (hok b (by omega)).1
  refine q_iadd (v := nI (20 * b + (bx b).length)) C dX0_put_35 36 rfl (q_nadd (by omega)) ?_
  refine q_istore_n C dX0_put_36 37 rfl [(3, .int (nI (20 * b + (bx b).length))), (0, .ref h0), (1, .int (nI b)), (2, .int (nI x))] (by decide) rfl ?_
  refine q_iload_n C dX0_put_37 38 0 rfl rfl ?_
  refine q_if_lt C dX0_put_38 41 67 rfl (by decide) (q_lt0 (by omega)) (fun h38 => False.elim (by first | omega | simp_all)) (fun h38 => ?_)
  refine q_iload_n C dX0_put_41 42 0 rfl rfl ?_
  refine q_aload_n C dX0_put_42 43 1 rfl rfl ?_
  refine q_get (k := 0) (j := 0) (f := 0) C hinX0 f9 (fun _ h => h) (by decide) rfl dX0_put_43 46 rfl rfl rfl rfl ?_
  refine q_alen (k := 0) (j := 1) (v := nI 240) C dX0_put_46 47 rfl rfl rfl hcI rfl ?_
  refine q_icmp_ge C dX0_put_47 50 67 rfl (by decide) (nI_leI (by omega) (by omega)) (fun h47 => False.elim (by first | omega | simp_all)) (fun h47 => ?_)
  refine q_aload_n C dX0_put_50 51 1 rfl rfl ?_
  refine q_get (k := 0) (j := 0) (f := 0) C hinX0 f9 (fun _ h => h) (by decide) rfl dX0_put_51 54 rfl rfl rfl rfl ?_
  refine q_iload_n C dX0_put_54 55 0 rfl rfl ?_
  refine q_iload_n C dX0_put_55 56 3 rfl rfl ?_
  refine q_iast (k := 0) (j := 1) C dX0_put_56 57 rfl rfl rfl hcI (20 * b + (bx b).length) rfl (by omega) (by decide) [[(h0, .inr (0, [.ref hs, .ref hh, .int (nI at0)])), (hs, .inl (cI, 240, .inl (upd fs (20 * b + (bx b).length) (nI x)))), (hh, .inl (cI, 12, .inl fh))]] rfl ?_
  refine q_aload_n C dX0_put_57 58 1 rfl rfl ?_
  refine q_get (k := 0) (j := 0) (f := 1) C hinX0 f15 (fun _ h => h) (by decide) rfl dX0_put_58 61 rfl rfl rfl rfl ?_
  refine q_iload_n C dX0_put_61 62 2 rfl rfl ?_
  refine q_dup2 C dX0_put_62 63 rfl rfl rfl ?_
  refine q_iald (k := 0) (j := 2) (v := nI ((bx b).length)) C dX0_put_63 64 rfl rfl rfl hcI b rfl (by omega) (by decide) (hrel b (by omega)).1 ?_
  have hlen63 : (bx b).length ≤ 20 := (hok b (by omega)).1
  refine q_iconst (v := nI 1) C dX0_put_64 65 rfl (by decide) ?_
  refine q_iadd (v := nI ((bx b).length + 1)) C dX0_put_65 66 rfl (q_nadd (by omega)) ?_
  refine q_iast (k := 0) (j := 2) C dX0_put_66 67 rfl rfl rfl hcI b rfl (by omega) (by decide) [[(h0, .inr (0, [.ref hs, .ref hh, .int (nI at0)])), (hs, .inl (cI, 240, .inl (upd fs (20 * b + (bx b).length) (nI x)))), (hh, .inl (cI, 12, .inl (upd fh b (nI ((bx b).length + 1)))))]] rfl ?_
  exact q_vret C B dX0_put_67 rfl rfl (fun t0 ht0 => ⟨rfl, _, ⟨hat, k_Bok_put hok hl hx, hs, hh, _, _, (k_BR_put hok hrel hb hl), rfl⟩, rfl⟩)

set_option maxHeartbeats 4000000 in
set_option maxRecDepth 100000 in
theorem c_X0_dropUpmost (l : Launch) {D : va_G} {tys : List (ClassId × FieldType)} {Z : (Nat → Prop) → State → Heap → Prop} (hZ : q_St Z) {cI : ClassId} (hI : tys[0]? = some (cI, .int)) (h0 : Nat) (bx : k_Bx) (at0 : Nat) (w : va_W) (h : k_isB cI h0 bx at0 w) (b : Nat) (hb : b < 12) : q_Ct l D tys Z yX0_dropUpmost wsX0_dropUpmost ({ frames := 1, cells := 0, slots := 0, locals := 42 } : Room) 0 0 [.ref h0, .int (nI b)] [w] (fun v0 R0 _ => v0 = none ∧ ∃ w', k_isB cI h0 (k_drop bx b) at0 w' ∧ R0 = [w']) := by
  have hcI := hI
  refine q_ct (cc := cX0_dropUpmost) (maxL := 2) (ret := none) (own := RX0) (by decide) rfl hZ (Nat.le_of_ble_eq_true rfl) rfl ?_
  intro p9 e9 R s9 m9 args below meth c9 A Q C B
  have hts := C.2.2.2.2.1
  have hinX0 : ∀ w ∈ u_ws RX0 TX0 3, w ∈ wsX0_dropUpmost := by decide +kernel
  have f15 := hts (.fieldLink RX0 15 "SortCases$Boxes" "heights" "[I") (by decide +kernel)
  refine q_eqL (L' := [(0, .ref h0), (1, .int (nI b))]) rfl ?_
  obtain ⟨hat, hok, hs, hh, fs, fh, hrel, rfl⟩ := h
  have hB : k_isB cI h0 bx at0 [(h0, .inr (0, [.ref hs, .ref hh, .int (nI at0)])), (hs, .inl (cI, 240, .inl fs)), (hh, .inl (cI, 12, .inl fh))] := ⟨hat, hok, hs, hh, fs, fh, hrel, rfl⟩
  refine q_iload_n C dX0_dropUpmost_0 1 1 rfl rfl ?_
  refine q_if_lt C dX0_dropUpmost_1 4 32 rfl (by decide) (q_lt0 (by omega)) (fun h1 => False.elim (by first | omega | simp_all)) (fun h1 => ?_)
  refine q_iload_n C dX0_dropUpmost_4 5 1 rfl rfl ?_
  refine q_aload_n C dX0_dropUpmost_5 6 0 rfl rfl ?_
  refine q_get (k := 0) (j := 0) (f := 1) C hinX0 f15 (fun _ h => h) (by decide) rfl dX0_dropUpmost_6 9 rfl rfl rfl rfl ?_
  refine q_alen (k := 0) (j := 2) (v := nI 12) C dX0_dropUpmost_9 10 rfl rfl rfl hcI rfl ?_
  refine q_icmp_ge C dX0_dropUpmost_10 13 32 rfl (by decide) (nI_leI (by omega) (by omega)) (fun h10 => False.elim (by first | omega | simp_all)) (fun h10 => ?_)
  refine q_aload_n C dX0_dropUpmost_13 14 0 rfl rfl ?_
  refine q_get (k := 0) (j := 0) (f := 1) C hinX0 f15 (fun _ h => h) (by decide) rfl dX0_dropUpmost_14 17 rfl rfl rfl rfl ?_
  refine q_iload_n C dX0_dropUpmost_17 18 1 rfl rfl ?_
  refine q_iald (k := 0) (j := 2) (v := nI ((bx b).length)) C dX0_dropUpmost_18 19 rfl rfl rfl hcI b rfl (by omega) (by decide) (hrel b (by omega)).1 ?_
  have hlen18 : (bx b).length ≤ 20 := (hok b (by omega)).1
  refine q_if_le C dX0_dropUpmost_19 22 32 rfl (by decide) (q_le0 (by omega)) (fun h19 => ?_) (fun h19 => ?_)
  · exact q_vret C B dX0_dropUpmost_32 rfl rfl (fun t0 ht0 => ⟨rfl, _, by rw [k_drop_0 (by omega)]; exact hB, rfl⟩)
  · refine q_aload_n C dX0_dropUpmost_22 23 0 rfl rfl ?_
    refine q_get (k := 0) (j := 0) (f := 1) C hinX0 f15 (fun _ h => h) (by decide) rfl dX0_dropUpmost_23 26 rfl rfl rfl rfl ?_
    refine q_iload_n C dX0_dropUpmost_26 27 1 rfl rfl ?_
    refine q_dup2 C dX0_dropUpmost_27 28 rfl rfl rfl ?_
    refine q_iald (k := 0) (j := 2) (v := nI ((bx b).length)) C dX0_dropUpmost_28 29 rfl rfl rfl hcI b rfl (by omega) (by decide) (hrel b (by omega)).1 ?_
    have hlen28 : (bx b).length ≤ 20 := (hok b (by omega)).1
    refine q_iconst (v := nI 1) C dX0_dropUpmost_29 30 rfl (by decide) ?_
    refine q_isub (v := nI ((bx b).length - 1)) C dX0_dropUpmost_30 31 rfl (q_nsub (by omega) (by omega)) ?_
    refine q_iast (k := 0) (j := 2) C dX0_dropUpmost_31 32 rfl rfl rfl hcI b rfl (by omega) (by decide) [[(h0, .inr (0, [.ref hs, .ref hh, .int (nI at0)])), (hs, .inl (cI, 240, .inl fs)), (hh, .inl (cI, 12, .inl (upd fh b (nI ((bx b).length - 1)))))]] rfl ?_
    exact q_vret C B dX0_dropUpmost_32 rfl rfl (fun t0 ht0 => ⟨rfl, _, ⟨hat, k_Bok_drop hok, hs, hh, _, _, (k_BR_drop hrel), rfl⟩, rfl⟩)

set_option maxHeartbeats 4000000 in
set_option maxRecDepth 100000 in
theorem c_X0_dropAt (l : Launch) {D : va_G} {tys : List (ClassId × FieldType)} {Z : (Nat → Prop) → State → Heap → Prop} (hZ : q_St Z) {cI : ClassId} (hI : tys[0]? = some (cI, .int)) (h0 : Nat) (bx : k_Bx) (at0 : Nat) (w : va_W) (h : k_isB cI h0 bx at0 w) (b : Nat) (d : Nat) (hb : b < 12) (hd : d < (bx b).length) : q_Ct l D tys Z yX0_dropAt wsX0_dropAt ({ frames := 1, cells := 0, slots := 0, locals := 42 } : Room) 0 0 [.ref h0, .int (nI b), .int (nI d)] [w] (fun v0 R0 _ => v0 = none ∧ ∃ w', k_isB cI h0 (k_cut bx b ((bx b).length - 1 - d)) at0 w' ∧ R0 = [w']) := by
  have hcI := hI
  refine q_ct (cc := cX0_dropAt) (maxL := 5) (ret := none) (own := RX0) (by decide) rfl hZ (Nat.le_of_ble_eq_true rfl) rfl ?_
  intro p9 e9 R s9 m9 args below meth c9 A Q C B
  have hts := C.2.2.2.2.1
  have hinX0 : ∀ w ∈ u_ws RX0 TX0 3, w ∈ wsX0_dropAt := by decide +kernel
  have f15 := hts (.fieldLink RX0 15 "SortCases$Boxes" "heights" "[I") (by decide +kernel)
  have f9 := hts (.fieldLink RX0 9 "SortCases$Boxes" "sorts" "[I") (by decide +kernel)
  refine q_eqL (L' := [(0, .ref h0), (1, .int (nI b)), (2, .int (nI d))]) rfl ?_
  obtain ⟨hat, hok, hs, hh, fs, fh, hrel, rfl⟩ := h
  have hB : k_isB cI h0 bx at0 [(h0, .inr (0, [.ref hs, .ref hh, .int (nI at0)])), (hs, .inl (cI, 240, .inl fs)), (hh, .inl (cI, 12, .inl fh))] := ⟨hat, hok, hs, hh, fs, fh, hrel, rfl⟩
  have hlb := (hok b hb).1
  refine q_iload_n C dX0_dropAt_0 1 1 rfl rfl ?_
  refine q_if_lt C dX0_dropAt_1 4 27 rfl (by decide) (q_lt0 (by omega)) (fun h1 => False.elim (by first | omega | simp_all)) (fun h1 => ?_)
  refine q_iload_n C dX0_dropAt_4 5 1 rfl rfl ?_
  refine q_aload_n C dX0_dropAt_5 6 0 rfl rfl ?_
  refine q_get (k := 0) (j := 0) (f := 1) C hinX0 f15 (fun _ h => h) (by decide) rfl dX0_dropAt_6 9 rfl rfl rfl rfl ?_
  refine q_alen (k := 0) (j := 2) (v := nI 12) C dX0_dropAt_9 10 rfl rfl rfl hcI rfl ?_
  refine q_icmp_ge C dX0_dropAt_10 13 27 rfl (by decide) (nI_leI (by omega) (by omega)) (fun h10 => False.elim (by first | omega | simp_all)) (fun h10 => ?_)
  refine q_iload_n C dX0_dropAt_13 14 2 rfl rfl ?_
  refine q_if_lt C dX0_dropAt_14 17 27 rfl (by decide) (q_lt0 (by omega)) (fun h14 => False.elim (by first | omega | simp_all)) (fun h14 => ?_)
  refine q_iload_n C dX0_dropAt_17 18 2 rfl rfl ?_
  refine q_aload_n C dX0_dropAt_18 19 0 rfl rfl ?_
  refine q_get (k := 0) (j := 0) (f := 1) C hinX0 f15 (fun _ h => h) (by decide) rfl dX0_dropAt_19 22 rfl rfl rfl rfl ?_
  refine q_iload_n C dX0_dropAt_22 23 1 rfl rfl ?_
  refine q_iald (k := 0) (j := 2) (v := nI ((bx b).length)) C dX0_dropAt_23 24 rfl rfl rfl hcI b rfl (by omega) (by decide) (hrel b (by omega)).1 ?_
  have hlen23 : (bx b).length ≤ 20 := (hok b (by omega)).1
  refine q_icmp_lt C dX0_dropAt_24 27 28 rfl (by decide) (nI_ltI (by omega) (by omega)) (fun h24 => ?_) (fun h24 => False.elim (by first | omega | simp_all))
  refine q_iload_n C dX0_dropAt_28 29 1 rfl rfl ?_
  refine q_bipush (v := nI 20) C dX0_dropAt_29 31 rfl (by decide) ?_
  refine q_imul (v := nI (20 * b)) C dX0_dropAt_31 32 rfl (q_nmul (by omega)) ?_
  refine q_aload_n C dX0_dropAt_32 33 0 rfl rfl ?_
  refine q_get (k := 0) (j := 0) (f := 1) C hinX0 f15 (fun _ h => h) (by decide) rfl dX0_dropAt_33 36 rfl rfl rfl rfl ?_
  refine q_iload_n C dX0_dropAt_36 37 1 rfl rfl ?_
  refine q_iald (k := 0) (j := 2) (v := nI ((bx b).length)) C dX0_dropAt_37 38 rfl rfl rfl hcI b rfl (by omega) (by decide) (hrel b (by omega)).1 ?_
  have hlen37 : (bx b).length ≤ 20 := (hok b (by omega)).1
  refine q_iadd (v := nI (20 * b + (bx b).length)) C dX0_dropAt_38 39 rfl (q_nadd (by omega)) ?_
  refine q_iconst (v := nI 1) C dX0_dropAt_39 40 rfl (by decide) ?_
  refine q_isub (v := nI (20 * b + (bx b).length - 1)) C dX0_dropAt_40 41 rfl (q_nsub (by omega) (by omega)) ?_
  refine q_istore_n C dX0_dropAt_41 42 rfl [(3, .int (nI (20 * b + (bx b).length - 1))), (0, .ref h0), (1, .int (nI b)), (2, .int (nI d))] (by decide) rfl ?_
  refine q_iload_n C dX0_dropAt_42 43 0 rfl rfl ?_
  refine q_iload_n C dX0_dropAt_43 44 3 rfl rfl ?_
  refine q_isub (v := nI (20 * b + (bx b).length - 1 - d)) C dX0_dropAt_44 45 rfl (q_nsub (by omega) (by omega)) ?_
  refine q_istore C dX0_dropAt_45 47 rfl [(4, .int (nI (20 * b + (bx b).length - 1 - d))), (3, .int (nI (20 * b + (bx b).length - 1))), (0, .ref h0), (1, .int (nI b)), (2, .int (nI d))] (by decide) rfl ?_
  have lp : ∀ (kk : Nat) (i : Nat) (f : Nat → Int32), 20 * b + (bx b).length - 1 - i < kk → ∀ (hi1 : 20 * b + (bx b).length - 1 - d ≤ i), ∀ (hi2 : i ≤ 20 * b + (bx b).length - 1), ∀ (hf : ∀ q, f q = if 20 * b + ((bx b).length - 1 - d) ≤ q ∧ q < i then fs (q + 1) else fs q), q_V p9 l e9 R s9 m9 args below meth c9 D A 5 Q 0 0 47 [(4, .int (nI i)), (3, .int (nI (20 * b + (bx b).length - 1))), (0, .ref h0), (1, .int (nI b)), (2, .int (nI d))] [] [[(h0, .inr (0, [.ref hs, .ref hh, .int (nI at0)])), (hs, .inl (cI, 240, .inl f)), (hh, .inl (cI, 12, .inl fh))]] := by
    intro kk
    induction kk with
    | zero => intro i f hkk; exact absurd hkk (Nat.not_lt_zero _)
    | succ kk ih_lp =>
      intro i f hkk hi1 hi2 hf
      refine q_iload C dX0_dropAt_47 49 0 rfl rfl ?_
      refine q_iload_n C dX0_dropAt_49 50 1 rfl rfl ?_
      refine q_icmp_ge C dX0_dropAt_50 53 92 rfl (by decide) (nI_leI (by omega) (by omega)) (fun h50 => ?_) (fun h50 => ?_)
      · refine q_aload_n C dX0_dropAt_92 93 2 rfl rfl ?_
        refine q_get (k := 0) (j := 0) (f := 1) C hinX0 f15 (fun _ h => h) (by decide) rfl dX0_dropAt_93 96 rfl rfl rfl rfl ?_
        refine q_iload_n C dX0_dropAt_96 97 3 rfl rfl ?_
        refine q_dup2 C dX0_dropAt_97 98 rfl rfl rfl ?_
        refine q_iald (k := 0) (j := 2) (v := nI ((bx b).length)) C dX0_dropAt_98 99 rfl rfl rfl hcI b rfl (by omega) (by decide) (hrel b (by omega)).1 ?_
        have hlen98 : (bx b).length ≤ 20 := (hok b (by omega)).1
        refine q_iconst (v := nI 1) C dX0_dropAt_99 100 rfl (by decide) ?_
        refine q_isub (v := nI ((bx b).length - 1)) C dX0_dropAt_100 101 rfl (q_nsub (by omega) (by omega)) ?_
        refine q_iast (k := 0) (j := 2) C dX0_dropAt_101 102 rfl rfl rfl hcI b rfl (by omega) (by decide) [[(h0, .inr (0, [.ref hs, .ref hh, .int (nI at0)])), (hs, .inl (cI, 240, .inl f)), (hh, .inl (cI, 12, .inl (upd fh b (nI ((bx b).length - 1)))))]] rfl ?_
        exact q_vret C B dX0_dropAt_102 rfl rfl (fun t0 ht0 => ⟨rfl, _, ⟨hat, k_Bok_cut hok, hs, hh, _, _, (k_BR_cut hok hrel hb (by omega) (fun q => by rw [hf]; exact (Decidable.em (20 * b + ((bx b).length - 1 - d) ≤ q ∧ q < i)).elim (fun e => by rw [if_pos e, if_pos (by omega)]) (fun e => by rw [if_neg e, if_neg (by omega)]))), rfl⟩, rfl⟩)
      · refine q_iload C dX0_dropAt_53 55 0 rfl rfl ?_
        refine q_if_lt C dX0_dropAt_55 58 86 rfl (by decide) (q_lt0 (by omega)) (fun h55 => False.elim (by first | omega | simp_all)) (fun h55 => ?_)
        refine q_iload C dX0_dropAt_58 60 0 rfl rfl ?_
        refine q_iconst (v := nI 1) C dX0_dropAt_60 61 rfl (by decide) ?_
        refine q_iadd (v := nI (i + 1)) C dX0_dropAt_61 62 rfl (q_nadd (by omega)) ?_
        refine q_aload_n C dX0_dropAt_62 63 2 rfl rfl ?_
        refine q_get (k := 0) (j := 0) (f := 0) C hinX0 f9 (fun _ h => h) (by decide) rfl dX0_dropAt_63 66 rfl rfl rfl rfl ?_
        refine q_alen (k := 0) (j := 1) (v := nI 240) C dX0_dropAt_66 67 rfl rfl rfl hcI rfl ?_
        refine q_icmp_ge C dX0_dropAt_67 70 86 rfl (by decide) (nI_leI (by omega) (by omega)) (fun h67 => False.elim (by first | omega | simp_all)) (fun h67 => ?_)
        refine q_aload_n C dX0_dropAt_70 71 2 rfl rfl ?_
        refine q_get (k := 0) (j := 0) (f := 0) C hinX0 f9 (fun _ h => h) (by decide) rfl dX0_dropAt_71 74 rfl rfl rfl rfl ?_
        refine q_iload C dX0_dropAt_74 76 0 rfl rfl ?_
        refine q_aload_n C dX0_dropAt_76 77 2 rfl rfl ?_
        refine q_get (k := 0) (j := 0) (f := 0) C hinX0 f9 (fun _ h => h) (by decide) rfl dX0_dropAt_77 80 rfl rfl rfl rfl ?_
        refine q_iload C dX0_dropAt_80 82 0 rfl rfl ?_
        refine q_iconst (v := nI 1) C dX0_dropAt_82 83 rfl (by decide) ?_
        refine q_iadd (v := nI (i + 1)) C dX0_dropAt_83 84 rfl (q_nadd (by omega)) ?_
        refine q_iald (k := 0) (j := 1) (v := fs (i + 1)) C dX0_dropAt_84 85 rfl rfl rfl hcI (i + 1) rfl (by omega) (by decide) (by rw [hf, if_neg (by omega)]) ?_
        refine q_iast (k := 0) (j := 1) C dX0_dropAt_85 86 rfl rfl rfl hcI i rfl (by omega) (by decide) [[(h0, .inr (0, [.ref hs, .ref hh, .int (nI at0)])), (hs, .inl (cI, 240, .inl (upd f i (fs (i + 1))))), (hh, .inl (cI, 12, .inl fh))]] rfl ?_
        refine q_iinc (v := nI (i + 1)) C dX0_dropAt_86 89 0 rfl rfl (q_ninc1 (by omega)) [(4, .int (nI (i + 1))), (3, .int (nI (20 * b + (bx b).length - 1))), (0, .ref h0), (1, .int (nI b)), (2, .int (nI d))] (by decide) rfl ?_
        refine q_goto C dX0_dropAt_89 47 (by decide) ?_
        refine q_sub (L' := [(4, .int (nI (i + 1))), (3, .int (nI (20 * b + (bx b).length - 1))), (0, .ref h0), (1, .int (nI b)), (2, .int (nI d))]) [0, 1, 2, 3, 4] rfl ?_
        exact ih_lp (i + 1) (upd f i (fs (i + 1))) (by omega) (by omega) (by omega) (fun q => (Decidable.em (q = i)).elim (fun e => by subst e; rw [pk_us, if_pos (by omega)]) (fun e => by rw [pk_un e, hf]; exact (Decidable.em (20 * b + ((bx b).length - 1 - d) ≤ q ∧ q < i)).elim (fun e2 => by rw [if_pos e2, if_pos (by omega)]) (fun e2 => by rw [if_neg e2, if_neg (by omega)])))
  refine q_sub (L' := [(4, .int (nI (20 * b + (bx b).length - 1 - d))), (3, .int (nI (20 * b + (bx b).length - 1))), (0, .ref h0), (1, .int (nI b)), (2, .int (nI d))]) [0, 1, 2, 3, 4] rfl ?_
  exact lp _ (20 * b + (bx b).length - 1 - d) fs (Nat.lt_succ_self _) (by omega) (by omega) (fun q => by rw [if_neg (by omega)])

set_option maxHeartbeats 4000000 in
set_option maxRecDepth 100000 in
theorem c_X0_copyFrom (l : Launch) {D : va_G} {tys : List (ClassId × FieldType)} {Z : (Nat → Prop) → State → Heap → Prop} (hZ : q_St Z) {cI : ClassId} (hI : tys[0]? = some (cI, .int)) (h0 : Nat) (bx : k_Bx) (at0 : Nat) (w : va_W) (h : k_isB cI h0 bx at0 w) (h1 : Nat) (obx : k_Bx) (oat0 : Nat) (ow : va_W) (oh : k_isB cI h1 obx oat0 ow) : q_Ct l D tys Z yX0_copyFrom wsX0_copyFrom ({ frames := 1, cells := 0, slots := 0, locals := 42 } : Room) 0 0 [.ref h0, .ref h1] [w, ow] (fun v0 R0 _ => v0 = none ∧ ∃ w', k_isB cI h0 obx oat0 w' ∧ R0 = [w', ow]) := by
  have hcI := hI
  refine q_ct (cc := cX0_copyFrom) (maxL := 3) (ret := none) (own := RX0) (by decide) rfl hZ (Nat.le_of_ble_eq_true rfl) rfl ?_
  intro p9 e9 R s9 m9 args below meth c9 A Q C B
  have hts := C.2.2.2.2.1
  have hinX0 : ∀ w ∈ u_ws RX0 TX0 3, w ∈ wsX0_copyFrom := by decide +kernel
  have f9 := hts (.fieldLink RX0 9 "SortCases$Boxes" "sorts" "[I") (by decide +kernel)
  have f15 := hts (.fieldLink RX0 15 "SortCases$Boxes" "heights" "[I") (by decide +kernel)
  have f18 := hts (.fieldLink RX0 18 "SortCases$Boxes" "sortedBox" "I") (by decide +kernel)
  refine q_eqL (L' := [(0, .ref h0), (1, .ref h1)]) rfl ?_
  obtain ⟨hat, hok, hs, hh, fs, fh, hrel, rfl⟩ := h
  have hB : k_isB cI h0 bx at0 [(h0, .inr (0, [.ref hs, .ref hh, .int (nI at0)])), (hs, .inl (cI, 240, .inl fs)), (hh, .inl (cI, 12, .inl fh))] := ⟨hat, hok, hs, hh, fs, fh, hrel, rfl⟩
  obtain ⟨hato, hoko, hso, hho, fso, fho, hrelo, rfl⟩ := oh
  have hBo : k_isB cI h1 obx oat0 [(h1, .inr (0, [.ref hso, .ref hho, .int (nI oat0)])), (hso, .inl (cI, 240, .inl fso)), (hho, .inl (cI, 12, .inl fho))] := ⟨hato, hoko, hso, hho, fso, fho, hrelo, rfl⟩
  refine q_iconst (v := nI 0) C dX0_copyFrom_0 1 rfl (by decide) ?_
  refine q_istore_n C dX0_copyFrom_1 2 rfl [(2, .int (nI 0)), (0, .ref h0), (1, .ref h1)] (by decide) rfl ?_
  have lp1 : ∀ (kk : Nat) (i : Nat) (f : Nat → Int32), 240 - i < kk → ∀ (hi : i ≤ 240), ∀ (hf1 : ∀ q, q < i → f q = fso q), q_V p9 l e9 R s9 m9 args below meth c9 D A 3 Q 0 0 2 [(2, .int (nI i)), (0, .ref h0), (1, .ref h1)] [] [[(h0, .inr (0, [.ref hs, .ref hh, .int (nI at0)])), (hs, .inl (cI, 240, .inl f)), (hh, .inl (cI, 12, .inl fh))], [(h1, .inr (0, [.ref hso, .ref hho, .int (nI oat0)])), (hso, .inl (cI, 240, .inl fso)), (hho, .inl (cI, 12, .inl fho))]] := by
    intro kk
    induction kk with
    | zero => intro i f hkk; exact absurd hkk (Nat.not_lt_zero _)
    | succ kk ih_lp1 =>
      intro i f hkk hi hf1
      refine q_iload_n C dX0_copyFrom_2 3 0 rfl rfl ?_
      refine q_aload_n C dX0_copyFrom_3 4 1 rfl rfl ?_
      refine q_get (k := 0) (j := 0) (f := 0) C hinX0 f9 (fun _ h => h) (by decide) rfl dX0_copyFrom_4 7 rfl rfl rfl rfl ?_
      refine q_alen (k := 0) (j := 1) (v := nI 240) C dX0_copyFrom_7 8 rfl rfl rfl hcI rfl ?_
      refine q_icmp_ge C dX0_copyFrom_8 11 38 rfl (by decide) (nI_leI (by omega) (by omega)) (fun h8 => ?_) (fun h8 => ?_)
      · refine q_iconst (v := nI 0) C dX0_copyFrom_38 39 rfl (by decide) ?_
        refine q_istore_n C dX0_copyFrom_39 40 rfl [(2, .int (nI 0)), (0, .ref h0), (1, .ref h1)] (by decide) rfl ?_
        have lp2 : ∀ (kk : Nat) (i2 : Nat) (f2 : Nat → Int32), 12 - i2 < kk → ∀ (hi2 : i2 ≤ 12), ∀ (hf2 : ∀ q, q < i2 → f2 q = fho q), q_V p9 l e9 R s9 m9 args below meth c9 D A 3 Q 0 0 40 [(2, .int (nI i2)), (0, .ref h0), (1, .ref h1)] [] [[(h0, .inr (0, [.ref hs, .ref hh, .int (nI at0)])), (hs, .inl (cI, 240, .inl f)), (hh, .inl (cI, 12, .inl f2))], [(h1, .inr (0, [.ref hso, .ref hho, .int (nI oat0)])), (hso, .inl (cI, 240, .inl fso)), (hho, .inl (cI, 12, .inl fho))]] := by
          intro kk
          induction kk with
          | zero => intro i2 f2 hkk; exact absurd hkk (Nat.not_lt_zero _)
          | succ kk ih_lp2 =>
            intro i2 f2 hkk hi2 hf2
            refine q_iload_n C dX0_copyFrom_40 41 0 rfl rfl ?_
            refine q_aload_n C dX0_copyFrom_41 42 1 rfl rfl ?_
            refine q_get (k := 0) (j := 0) (f := 1) C hinX0 f15 (fun _ h => h) (by decide) rfl dX0_copyFrom_42 45 rfl rfl rfl rfl ?_
            refine q_alen (k := 0) (j := 2) (v := nI 12) C dX0_copyFrom_45 46 rfl rfl rfl hcI rfl ?_
            refine q_icmp_ge C dX0_copyFrom_46 49 76 rfl (by decide) (nI_leI (by omega) (by omega)) (fun h46 => ?_) (fun h46 => ?_)
            · refine q_aload_n C dX0_copyFrom_76 77 1 rfl rfl ?_
              refine q_aload_n C dX0_copyFrom_77 78 2 rfl rfl ?_
              refine q_get (k := 1) (j := 0) (f := 2) C hinX0 f18 (fun _ h => h) (by decide) rfl dX0_copyFrom_78 81 rfl rfl rfl rfl ?_
              refine q_put (k := 0) (j := 0) (f := 2) C hinX0 tyX0 tyX0_ok nmX0 f18 (fun _ h => h) (by decide) rfl rfl (tyX0_ok 2 (by decide)) rfl rfl dX0_copyFrom_81 84 rfl rfl rfl (Nat.le_of_ble_eq_true rfl) [[(h0, .inr (0, [.ref hs, .ref hh, .int (nI oat0)])), (hs, .inl (cI, 240, .inl f)), (hh, .inl (cI, 12, .inl f2))], [(h1, .inr (0, [.ref hso, .ref hho, .int (nI oat0)])), (hso, .inl (cI, 240, .inl fso)), (hho, .inl (cI, 12, .inl fho))]] rfl ?_
              exact q_vret C B dX0_copyFrom_84 rfl rfl (fun t0 ht0 => ⟨rfl, _, ⟨hato, hoko, hs, hh, _, _, k_BR_cong hoko hrelo (fun q hq => hf1 q (by omega)) (fun q hq => hf2 q (by omega)), rfl⟩, rfl⟩)
            · refine q_iload_n C dX0_copyFrom_49 50 0 rfl rfl ?_
              refine q_aload_n C dX0_copyFrom_50 51 2 rfl rfl ?_
              refine q_get (k := 1) (j := 0) (f := 1) C hinX0 f15 (fun _ h => h) (by decide) rfl dX0_copyFrom_51 54 rfl rfl rfl rfl ?_
              refine q_alen (k := 1) (j := 2) (v := nI 12) C dX0_copyFrom_54 55 rfl rfl rfl hcI rfl ?_
              refine q_icmp_ge C dX0_copyFrom_55 58 76 rfl (by decide) (nI_leI (by omega) (by omega)) (fun h55 => False.elim (by first | omega | simp_all)) (fun h55 => ?_)
              refine q_aload_n C dX0_copyFrom_58 59 1 rfl rfl ?_
              refine q_get (k := 0) (j := 0) (f := 1) C hinX0 f15 (fun _ h => h) (by decide) rfl dX0_copyFrom_59 62 rfl rfl rfl rfl ?_
              refine q_iload_n C dX0_copyFrom_62 63 0 rfl rfl ?_
              refine q_aload_n C dX0_copyFrom_63 64 2 rfl rfl ?_
              refine q_get (k := 1) (j := 0) (f := 1) C hinX0 f15 (fun _ h => h) (by decide) rfl dX0_copyFrom_64 67 rfl rfl rfl rfl ?_
              refine q_iload_n C dX0_copyFrom_67 68 0 rfl rfl ?_
              refine q_iald (k := 1) (j := 2) (v := fho i2) C dX0_copyFrom_68 69 rfl rfl rfl hcI i2 rfl (by omega) (by decide) rfl ?_
              refine q_iast (k := 0) (j := 2) C dX0_copyFrom_69 70 rfl rfl rfl hcI i2 rfl (by omega) (by decide) [[(h0, .inr (0, [.ref hs, .ref hh, .int (nI at0)])), (hs, .inl (cI, 240, .inl f)), (hh, .inl (cI, 12, .inl (upd f2 i2 (fho i2))))], [(h1, .inr (0, [.ref hso, .ref hho, .int (nI oat0)])), (hso, .inl (cI, 240, .inl fso)), (hho, .inl (cI, 12, .inl fho))]] rfl ?_
              refine q_iinc (v := nI (i2 + 1)) C dX0_copyFrom_70 73 0 rfl rfl (q_ninc1 (by omega)) [(2, .int (nI (i2 + 1))), (0, .ref h0), (1, .ref h1)] (by decide) rfl ?_
              refine q_goto C dX0_copyFrom_73 40 (by decide) ?_
              refine q_sub (L' := [(2, .int (nI (i2 + 1))), (0, .ref h0), (1, .ref h1)]) [0, 1, 2] rfl ?_
              exact ih_lp2 (i2 + 1) (upd f2 i2 (fho i2)) (by omega) (by omega) (fun q hq => (Decidable.em (q = i2)).elim (fun e => by subst e; rw [pk_us]) (fun e => by rw [pk_un e]; exact hf2 q (by omega)))
        refine q_sub (L' := [(2, .int (nI 0)), (0, .ref h0), (1, .ref h1)]) [0, 1, 2] rfl ?_
        exact lp2 _ 0 fh (Nat.lt_succ_self _) (by omega) (fun q hq => absurd hq (Nat.not_lt_zero q))
      · refine q_iload_n C dX0_copyFrom_11 12 0 rfl rfl ?_
        refine q_aload_n C dX0_copyFrom_12 13 2 rfl rfl ?_
        refine q_get (k := 1) (j := 0) (f := 0) C hinX0 f9 (fun _ h => h) (by decide) rfl dX0_copyFrom_13 16 rfl rfl rfl rfl ?_
        refine q_alen (k := 1) (j := 1) (v := nI 240) C dX0_copyFrom_16 17 rfl rfl rfl hcI rfl ?_
        refine q_icmp_ge C dX0_copyFrom_17 20 38 rfl (by decide) (nI_leI (by omega) (by omega)) (fun h17 => False.elim (by first | omega | simp_all)) (fun h17 => ?_)
        refine q_aload_n C dX0_copyFrom_20 21 1 rfl rfl ?_
        refine q_get (k := 0) (j := 0) (f := 0) C hinX0 f9 (fun _ h => h) (by decide) rfl dX0_copyFrom_21 24 rfl rfl rfl rfl ?_
        refine q_iload_n C dX0_copyFrom_24 25 0 rfl rfl ?_
        refine q_aload_n C dX0_copyFrom_25 26 2 rfl rfl ?_
        refine q_get (k := 1) (j := 0) (f := 0) C hinX0 f9 (fun _ h => h) (by decide) rfl dX0_copyFrom_26 29 rfl rfl rfl rfl ?_
        refine q_iload_n C dX0_copyFrom_29 30 0 rfl rfl ?_
        refine q_iald (k := 1) (j := 1) (v := fso i) C dX0_copyFrom_30 31 rfl rfl rfl hcI i rfl (by omega) (by decide) rfl ?_
        refine q_iast (k := 0) (j := 1) C dX0_copyFrom_31 32 rfl rfl rfl hcI i rfl (by omega) (by decide) [[(h0, .inr (0, [.ref hs, .ref hh, .int (nI at0)])), (hs, .inl (cI, 240, .inl (upd f i (fso i)))), (hh, .inl (cI, 12, .inl fh))], [(h1, .inr (0, [.ref hso, .ref hho, .int (nI oat0)])), (hso, .inl (cI, 240, .inl fso)), (hho, .inl (cI, 12, .inl fho))]] rfl ?_
        refine q_iinc (v := nI (i + 1)) C dX0_copyFrom_32 35 0 rfl rfl (q_ninc1 (by omega)) [(2, .int (nI (i + 1))), (0, .ref h0), (1, .ref h1)] (by decide) rfl ?_
        refine q_goto C dX0_copyFrom_35 2 (by decide) ?_
        refine q_sub (L' := [(2, .int (nI (i + 1))), (0, .ref h0), (1, .ref h1)]) [0, 1, 2] rfl ?_
        exact ih_lp1 (i + 1) (upd f i (fso i)) (by omega) (by omega) (fun q hq => (Decidable.em (q = i)).elim (fun e => by subst e; rw [pk_us]) (fun e => by rw [pk_un e]; exact hf1 q (by omega)))
  refine q_sub (L' := [(2, .int (nI 0)), (0, .ref h0), (1, .ref h1)]) [0, 1, 2] rfl ?_
  exact lp1 _ 0 fs (Nat.lt_succ_self _) (by omega) (fun q hq => absurd hq (Nat.not_lt_zero q))

set_option maxHeartbeats 4000000 in
set_option maxRecDepth 100000 in
theorem c_X0_countIn (l : Launch) {D : va_G} {tys : List (ClassId × FieldType)} {Z : (Nat → Prop) → State → Heap → Prop} (hZ : q_St Z) {cI : ClassId} (hI : tys[0]? = some (cI, .int)) (h0 : Nat) (bx : k_Bx) (at0 : Nat) (w : va_W) (h : k_isB cI h0 bx at0 w) (b : Nat) (x : Nat) (hb : b < 12) (hx : x < 12) : q_Ct l D tys Z yX0_countIn wsX0_countIn ({ frames := 2, cells := 0, slots := 0, locals := 72 } : Room) 0 0 [.ref h0, .int (nI b), .int (nI x)] [w] (fun v0 R0 _ => v0 = some (.int (nI (k_cn bx b x))) ∧ R0 = [w]) := by
  have hcI := hI
  refine q_ct (cc := cX0_countIn) (maxL := 6) (ret := (some .int)) (own := RX0) (by decide) rfl hZ (Nat.le_of_ble_eq_true rfl) rfl ?_
  intro p9 e9 R s9 m9 args below meth c9 A Q C B
  have hts := C.2.2.2.2.1
  refine q_eqL (L' := [(0, .ref h0), (1, .int (nI b)), (2, .int (nI x))]) rfl ?_
  refine q_aload_n C dX0_countIn_0 1 0 rfl rfl ?_
  refine q_iload_n C dX0_countIn_1 2 1 rfl rfl ?_
  refine q_callV (k := 0) (ci := 0) (n := 1) (rest := []) (Rr := []) C rfl (k_isB_recv h) rfl (c_X0_heightOf l hZ hI h0 bx at0 w h b (by omega)) gX0_countIn_X0_heightOf rfl rfl rfl (by decide +kernel) B.1 ⟨Nat.le_of_ble_eq_true rfl, Nat.le_of_ble_eq_true rfl⟩ rfl rfl (Nat.le_of_ble_eq_true rfl) dX0_countIn_2 ⟨Nat.le_of_ble_eq_true rfl, Nat.le_of_ble_eq_true rfl⟩ [0] [] (by decide : ([0] ++ ([] : List Nat)).Perm (List.range 1)) rfl rfl 5 rfl (fun v0 R0 t0 ht0 hp0 => ?_)
  obtain ⟨rfl, rfl⟩ := hp0
  refine q_eqs (st' := [.int (nI ((bx b).length))]) rfl ?_
  refine q_eqR (Rs' := [w]) rfl ?_
  have hh2 : (bx b).length ≤ 20 := (h.2.1 b (by omega)).1
  refine q_istore_n C dX0_countIn_5 6 rfl [(3, .int (nI ((bx b).length))), (0, .ref h0), (1, .int (nI b)), (2, .int (nI x))] (by decide) rfl ?_
  refine q_iconst (v := nI 0) C dX0_countIn_6 7 rfl (by decide) ?_
  refine q_istore C dX0_countIn_7 9 rfl [(4, .int (nI 0)), (3, .int (nI ((bx b).length))), (0, .ref h0), (1, .int (nI b)), (2, .int (nI x))] (by decide) rfl ?_
  refine q_iconst (v := nI 0) C dX0_countIn_9 10 rfl (by decide) ?_
  refine q_istore C dX0_countIn_10 12 rfl [(5, .int (nI 0)), (4, .int (nI 0)), (3, .int (nI ((bx b).length))), (0, .ref h0), (1, .int (nI b)), (2, .int (nI x))] (by decide) rfl ?_
  have lp : ∀ (kk : Nat) (i : Nat) (n : Nat), (bx b).length - i < kk → ∀ (hi : i ≤ (bx b).length), ∀ (hn : n = k_cnt (fun d => k_at (bx b) ((bx b).length - 1 - d) == x) i), q_V p9 l e9 R s9 m9 args below meth c9 D A 6 Q 0 0 12 [(5, .int (nI i)), (4, .int (nI n)), (3, .int (nI ((bx b).length))), (0, .ref h0), (1, .int (nI b)), (2, .int (nI x))] [] [w] := by
    intro kk
    induction kk with
    | zero => intro i n hkk; exact absurd hkk (Nat.not_lt_zero _)
    | succ kk ih_lp =>
      intro i n hkk hi hn
      refine q_iload C dX0_countIn_12 14 0 rfl rfl ?_
      refine q_iload_n C dX0_countIn_14 15 2 rfl rfl ?_
      refine q_icmp_ge C dX0_countIn_15 18 38 rfl (by decide) (nI_leI (by omega) (by omega)) (fun h15 => ?_) (fun h15 => ?_)
      · refine q_iload C dX0_countIn_38 40 1 rfl rfl ?_
        exact q_iret C B dX0_countIn_40 rfl rfl (fun t0 ht0 => ⟨by rw [hn, show i = (bx b).length by omega, k_cnt_rev (fun i => k_at (bx b) i == x)]; rfl, rfl⟩)
      · refine q_aload_n C dX0_countIn_18 19 3 rfl rfl ?_
        refine q_iload_n C dX0_countIn_19 20 4 rfl rfl ?_
        refine q_iload C dX0_countIn_20 22 0 rfl rfl ?_
        refine q_callV (k := 0) (ci := 0) (n := 2) (rest := []) (Rr := []) C rfl (k_isB_recv h) rfl (c_X0_typeAt_s l hZ hI h0 bx at0 w h b i (by omega) (by omega)) gX0_countIn_X0_typeAt rfl rfl rfl (by decide +kernel) B.1 ⟨Nat.le_of_ble_eq_true rfl, Nat.le_of_ble_eq_true rfl⟩ rfl rfl (Nat.le_of_ble_eq_true rfl) dX0_countIn_22 ⟨Nat.le_of_ble_eq_true rfl, Nat.le_of_ble_eq_true rfl⟩ [0] [] (by decide : ([0] ++ ([] : List Nat)).Perm (List.range 1)) rfl rfl 25 rfl (fun v0 R0 t0 ht0 hp0 => ?_)
        obtain ⟨rfl, rfl⟩ := hp0
        refine q_eqs (st' := [.int (nI (k_at (bx b) ((bx b).length - 1 - i)))]) rfl ?_
        refine q_eqR (Rs' := [w]) rfl ?_
        have ht22 : k_at (bx b) ((bx b).length - 1 - i) < 12 := k_at_lt (h.2.1 b (by omega)).2 (by omega)
        refine q_iload_n C dX0_countIn_25 26 5 rfl rfl ?_
        refine q_icmp_ne C dX0_countIn_26 29 32 rfl (by decide) (nI_eq (by omega) (by omega)) (fun h26 => ?_) (fun h26 => ?_)
        · refine q_iinc (v := nI (i + 1)) C dX0_countIn_32 35 0 rfl rfl (q_ninc1 (by omega)) [(5, .int (nI (i + 1))), (4, .int (nI n)), (3, .int (nI ((bx b).length))), (0, .ref h0), (1, .int (nI b)), (2, .int (nI x))] (by decide) rfl ?_
          refine q_goto C dX0_countIn_35 12 (by decide) ?_
          refine q_sub (L' := [(5, .int (nI (i + 1))), (4, .int (nI n)), (3, .int (nI ((bx b).length))), (0, .ref h0), (1, .int (nI b)), (2, .int (nI x))]) [0, 1, 2, 3, 4, 5] rfl ?_
          exact ih_lp (i + 1) n (by omega) (by omega) (by first | (rw [k_cnt_t (by simp; omega)]; omega) | (rw [k_cnt_f (by simp; omega)]; omega))
        · refine q_iinc (v := nI (n + 1)) C dX0_countIn_29 32 1 rfl rfl (q_ninc1 (by omega)) [(4, .int (nI (n + 1))), (5, .int (nI i)), (3, .int (nI ((bx b).length))), (0, .ref h0), (1, .int (nI b)), (2, .int (nI x))] (by decide) rfl ?_
          refine q_iinc (v := nI (i + 1)) C dX0_countIn_32 35 1 rfl rfl (q_ninc1 (by omega)) [(5, .int (nI (i + 1))), (4, .int (nI (n + 1))), (3, .int (nI ((bx b).length))), (0, .ref h0), (1, .int (nI b)), (2, .int (nI x))] (by decide) rfl ?_
          refine q_goto C dX0_countIn_35 12 (by decide) ?_
          refine q_sub (L' := [(5, .int (nI (i + 1))), (4, .int (nI (n + 1))), (3, .int (nI ((bx b).length))), (0, .ref h0), (1, .int (nI b)), (2, .int (nI x))]) [0, 1, 2, 3, 4, 5] rfl ?_
          exact ih_lp (i + 1) (n + 1) (by omega) (by omega) (by first | (rw [k_cnt_t (by simp; omega)]; omega) | (rw [k_cnt_f (by simp; omega)]; omega))
  refine q_sub (L' := [(5, .int (nI 0)), (4, .int (nI 0)), (3, .int (nI ((bx b).length))), (0, .ref h0), (1, .int (nI b)), (2, .int (nI x))]) [0, 1, 2, 3, 4, 5] rfl ?_
  exact lp _ 0 0 (Nat.lt_succ_self _) (by omega) (by rw [k_cnt_0])

set_option maxHeartbeats 4000000 in
set_option maxRecDepth 100000 in
theorem c_X0_wrongIn (l : Launch) {D : va_G} {tys : List (ClassId × FieldType)} {Z : (Nat → Prop) → State → Heap → Prop} (hZ : q_St Z) {cI : ClassId} (hI : tys[0]? = some (cI, .int)) (h0 : Nat) (bx : k_Bx) (at0 : Nat) (w : va_W) (h : k_isB cI h0 bx at0 w) (b : Nat) (hb : b < 12) : q_Ct l D tys Z yX0_wrongIn wsX0_wrongIn ({ frames := 3, cells := 0, slots := 0, locals := 102 } : Room) 0 0 [.ref h0, .int (nI b)] [w] (fun v0 R0 _ => v0 = some (.int (nI (k_wi bx b))) ∧ R0 = [w]) := by
  have hcI := hI
  refine q_ct (cc := cX0_wrongIn) (maxL := 2) (ret := (some .int)) (own := RX0) (by decide) rfl hZ (Nat.le_of_ble_eq_true rfl) rfl ?_
  intro p9 e9 R s9 m9 args below meth c9 A Q C B
  have hts := C.2.2.2.2.1
  refine q_eqL (L' := [(0, .ref h0), (1, .int (nI b))]) rfl ?_
  refine q_aload_n C dX0_wrongIn_0 1 0 rfl rfl ?_
  refine q_iload_n C dX0_wrongIn_1 2 1 rfl rfl ?_
  refine q_callV (k := 0) (ci := 0) (n := 1) (rest := []) (Rr := []) C rfl (k_isB_recv h) rfl (c_X0_heightOf l hZ hI h0 bx at0 w h b (by omega)) gX0_wrongIn_X0_heightOf rfl rfl rfl (by decide +kernel) B.1 ⟨Nat.le_of_ble_eq_true rfl, Nat.le_of_ble_eq_true rfl⟩ rfl rfl (Nat.le_of_ble_eq_true rfl) dX0_wrongIn_2 ⟨Nat.le_of_ble_eq_true rfl, Nat.le_of_ble_eq_true rfl⟩ [0] [] (by decide : ([0] ++ ([] : List Nat)).Perm (List.range 1)) rfl rfl 5 rfl (fun v0 R0 t0 ht0 hp0 => ?_)
  obtain ⟨rfl, rfl⟩ := hp0
  refine q_eqs (st' := [.int (nI ((bx b).length))]) rfl ?_
  refine q_eqR (Rs' := [w]) rfl ?_
  have hh2 : (bx b).length ≤ 20 := (h.2.1 b (by omega)).1
  refine q_aload_n C dX0_wrongIn_5 6 0 rfl rfl ?_
  refine q_iload_n C dX0_wrongIn_6 7 1 rfl rfl ?_
  refine q_iload_n C dX0_wrongIn_7 8 1 rfl rfl ?_
  refine q_callV (k := 0) (ci := 0) (n := 2) (rest := [.int (nI ((bx b).length))]) (Rr := []) C rfl (k_isB_recv h) rfl (c_X0_countIn l hZ hI h0 bx at0 w h b b (by omega) (by omega)) gX0_wrongIn_X0_countIn rfl rfl rfl (by decide +kernel) B.1 ⟨Nat.le_of_ble_eq_true rfl, Nat.le_of_ble_eq_true rfl⟩ rfl rfl (Nat.le_of_ble_eq_true rfl) dX0_wrongIn_8 ⟨Nat.le_of_ble_eq_true rfl, Nat.le_of_ble_eq_true rfl⟩ [0] [] (by decide : ([0] ++ ([] : List Nat)).Perm (List.range 1)) rfl rfl 11 rfl (fun v0 R0 t0 ht0 hp0 => ?_)
  obtain ⟨rfl, rfl⟩ := hp0
  refine q_eqs (st' := [.int (nI (k_cn bx b b)), .int (nI ((bx b).length))]) rfl ?_
  refine q_eqR (Rs' := [w]) rfl ?_
  have hc8 : k_cn bx b b ≤ (bx b).length := k_cn_le _ _ _
  refine q_isub (v := nI (k_wi bx b)) C dX0_wrongIn_11 12 rfl (q_nsub (by omega) (k_wi_eq bx b)) ?_
  exact q_iret C B dX0_wrongIn_12 rfl rfl (fun t0 ht0 => ⟨rfl, rfl⟩)

set_option maxHeartbeats 4000000 in
set_option maxRecDepth 100000 in
theorem c_X0_wrong (l : Launch) {D : va_G} {tys : List (ClassId × FieldType)} {Z : (Nat → Prop) → State → Heap → Prop} (hZ : q_St Z) {cI : ClassId} (hI : tys[0]? = some (cI, .int)) (h0 : Nat) (bx : k_Bx) (at0 : Nat) (w : va_W) (h : k_isB cI h0 bx at0 w) : q_Ct l D tys Z yX0_wrong wsX0_wrong ({ frames := 4, cells := 0, slots := 0, locals := 132 } : Room) 0 0 [.ref h0] [w] (fun v0 R0 _ => v0 = some (.int (nI (k_wr bx))) ∧ R0 = [w]) := by
  have hcI := hI
  refine q_ct (cc := cX0_wrong) (maxL := 3) (ret := (some .int)) (own := RX0) (by decide) rfl hZ (Nat.le_of_ble_eq_true rfl) rfl ?_
  intro p9 e9 R s9 m9 args below meth c9 A Q C B
  have hts := C.2.2.2.2.1
  refine q_eqL (L' := [(0, .ref h0)]) rfl ?_
  refine q_iconst (v := nI 0) C dX0_wrong_0 1 rfl (by decide) ?_
  refine q_istore_n C dX0_wrong_1 2 rfl [(1, .int (nI 0)), (0, .ref h0)] (by decide) rfl ?_
  refine q_iconst (v := nI 0) C dX0_wrong_2 3 rfl (by decide) ?_
  refine q_istore_n C dX0_wrong_3 4 rfl [(2, .int (nI 0)), (1, .int (nI 0)), (0, .ref h0)] (by decide) rfl ?_
  have lp : ∀ (kk : Nat) (i : Nat) (n : Nat), 12 - i < kk → ∀ (hi : i ≤ 12), ∀ (hn : n = k_sum (fun b => k_wi bx b) i), q_V p9 l e9 R s9 m9 args below meth c9 D A 3 Q 0 0 4 [(2, .int (nI i)), (1, .int (nI n)), (0, .ref h0)] [] [w] := by
    intro kk
    induction kk with
    | zero => intro i n hkk; exact absurd hkk (Nat.not_lt_zero _)
    | succ kk ih_lp =>
      intro i n hkk hi hn
      refine q_iload_n C dX0_wrong_4 5 0 rfl rfl ?_
      refine q_bipush (v := nI 12) C dX0_wrong_5 7 rfl (by decide) ?_
      refine q_icmp_ge C dX0_wrong_7 10 24 rfl (by decide) (nI_leI (by omega) (by omega)) (fun h7 => ?_) (fun h7 => ?_)
      · refine q_iload_n C dX0_wrong_24 25 1 rfl rfl ?_
        exact q_iret C B dX0_wrong_25 rfl rfl (fun t0 ht0 => ⟨by rw [hn, show i = 12 by omega]; rfl, rfl⟩)
      · refine q_iload_n C dX0_wrong_10 11 1 rfl rfl ?_
        refine q_aload_n C dX0_wrong_11 12 2 rfl rfl ?_
        refine q_iload_n C dX0_wrong_12 13 0 rfl rfl ?_
        refine q_callV (k := 0) (ci := 0) (n := 1) (rest := [.int (nI n)]) (Rr := []) C rfl (k_isB_recv h) rfl (c_X0_wrongIn l hZ hI h0 bx at0 w h i (by omega)) gX0_wrong_X0_wrongIn rfl rfl rfl (by decide +kernel) B.1 ⟨Nat.le_of_ble_eq_true rfl, Nat.le_of_ble_eq_true rfl⟩ rfl rfl (Nat.le_of_ble_eq_true rfl) dX0_wrong_13 ⟨Nat.le_of_ble_eq_true rfl, Nat.le_of_ble_eq_true rfl⟩ [0] [] (by decide : ([0] ++ ([] : List Nat)).Perm (List.range 1)) rfl rfl 16 rfl (fun v0 R0 t0 ht0 hp0 => ?_)
        obtain ⟨rfl, rfl⟩ := hp0
        refine q_eqs (st' := [.int (nI (k_wi bx i)), .int (nI n)]) rfl ?_
        refine q_eqR (Rs' := [w]) rfl ?_
        have hc13 : k_wi bx i ≤ (bx i).length := k_wi_le _ _
        refine q_iadd (v := nI (n + k_wi bx i)) C dX0_wrong_16 17 rfl (q_nadd (by omega)) ?_
        refine q_istore_n C dX0_wrong_17 18 rfl [(1, .int (nI (n + k_wi bx i))), (2, .int (nI i)), (0, .ref h0)] (by decide) rfl ?_
        refine q_iinc (v := nI (i + 1)) C dX0_wrong_18 21 1 rfl rfl (q_ninc1 (by omega)) [(2, .int (nI (i + 1))), (1, .int (nI (n + k_wi bx i))), (0, .ref h0)] (by decide) rfl ?_
        refine q_goto C dX0_wrong_21 4 (by decide) ?_
        refine q_sub (L' := [(2, .int (nI (i + 1))), (1, .int (nI (n + k_wi bx i))), (0, .ref h0)]) [0, 1, 2] rfl ?_
        exact ih_lp (i + 1) (n + k_wi bx i) (by omega) (by omega) (by rw [k_sum_s]; first | omega | (rw [if_pos (by omega)]; omega) | (rw [if_neg (by omega)]; omega))
  refine q_sub (L' := [(2, .int (nI 0)), (1, .int (nI 0)), (0, .ref h0)]) [0, 1, 2] rfl ?_
  exact lp _ 0 0 (Nat.lt_succ_self _) (by omega) (by rw [k_sum_0])

set_option maxHeartbeats 4000000 in
set_option maxRecDepth 100000 in
theorem c_X0_strayOf (l : Launch) {D : va_G} {tys : List (ClassId × FieldType)} {Z : (Nat → Prop) → State → Heap → Prop} (hZ : q_St Z) {cI : ClassId} (hI : tys[0]? = some (cI, .int)) (h0 : Nat) (bx : k_Bx) (at0 : Nat) (w : va_W) (h : k_isB cI h0 bx at0 w) (x : Nat) (hx : x < 12) : q_Ct l D tys Z yX0_strayOf wsX0_strayOf ({ frames := 3, cells := 0, slots := 0, locals := 102 } : Room) 0 0 [.ref h0, .int (nI x)] [w] (fun v0 R0 _ => v0 = some (.int (nI (k_st bx x))) ∧ R0 = [w]) := by
  have hcI := hI
  refine q_ct (cc := cX0_strayOf) (maxL := 4) (ret := (some .int)) (own := RX0) (by decide) rfl hZ (Nat.le_of_ble_eq_true rfl) rfl ?_
  intro p9 e9 R s9 m9 args below meth c9 A Q C B
  have hts := C.2.2.2.2.1
  refine q_eqL (L' := [(0, .ref h0), (1, .int (nI x))]) rfl ?_
  refine q_iconst (v := nI 0) C dX0_strayOf_0 1 rfl (by decide) ?_
  refine q_istore_n C dX0_strayOf_1 2 rfl [(2, .int (nI 0)), (0, .ref h0), (1, .int (nI x))] (by decide) rfl ?_
  refine q_iconst (v := nI 0) C dX0_strayOf_2 3 rfl (by decide) ?_
  refine q_istore_n C dX0_strayOf_3 4 rfl [(3, .int (nI 0)), (2, .int (nI 0)), (0, .ref h0), (1, .int (nI x))] (by decide) rfl ?_
  have lp : ∀ (kk : Nat) (i : Nat) (n : Nat), 12 - i < kk → ∀ (hi : i ≤ 12), ∀ (hn : n = k_sum (fun b => if b = x then 0 else k_cn bx b x) i), q_V p9 l e9 R s9 m9 args below meth c9 D A 4 Q 0 0 4 [(3, .int (nI i)), (2, .int (nI n)), (0, .ref h0), (1, .int (nI x))] [] [w] := by
    intro kk
    induction kk with
    | zero => intro i n hkk; exact absurd hkk (Nat.not_lt_zero _)
    | succ kk ih_lp =>
      intro i n hkk hi hn
      refine q_iload_n C dX0_strayOf_4 5 0 rfl rfl ?_
      refine q_bipush (v := nI 12) C dX0_strayOf_5 7 rfl (by decide) ?_
      refine q_icmp_ge C dX0_strayOf_7 10 30 rfl (by decide) (nI_leI (by omega) (by omega)) (fun h7 => ?_) (fun h7 => ?_)
      · refine q_iload_n C dX0_strayOf_30 31 1 rfl rfl ?_
        exact q_iret C B dX0_strayOf_31 rfl rfl (fun t0 ht0 => ⟨by rw [hn, show i = 12 by omega]; rfl, rfl⟩)
      · refine q_iload_n C dX0_strayOf_10 11 0 rfl rfl ?_
        refine q_iload_n C dX0_strayOf_11 12 3 rfl rfl ?_
        refine q_icmp_eq C dX0_strayOf_12 15 24 rfl (by decide) (nI_eq (by omega) (by omega)) (fun h12 => ?_) (fun h12 => ?_)
        · refine q_iinc (v := nI (i + 1)) C dX0_strayOf_24 27 0 rfl rfl (q_ninc1 (by omega)) [(3, .int (nI (i + 1))), (2, .int (nI n)), (0, .ref h0), (1, .int (nI x))] (by decide) rfl ?_
          refine q_goto C dX0_strayOf_27 4 (by decide) ?_
          refine q_sub (L' := [(3, .int (nI (i + 1))), (2, .int (nI n)), (0, .ref h0), (1, .int (nI x))]) [0, 1, 2, 3] rfl ?_
          exact ih_lp (i + 1) n (by omega) (by omega) (by rw [k_sum_s]; first | omega | (rw [if_pos (by omega)]; omega) | (rw [if_neg (by omega)]; omega))
        · refine q_iload_n C dX0_strayOf_15 16 1 rfl rfl ?_
          refine q_aload_n C dX0_strayOf_16 17 2 rfl rfl ?_
          refine q_iload_n C dX0_strayOf_17 18 0 rfl rfl ?_
          refine q_iload_n C dX0_strayOf_18 19 3 rfl rfl ?_
          refine q_callV (k := 0) (ci := 0) (n := 2) (rest := [.int (nI n)]) (Rr := []) C rfl (k_isB_recv h) rfl (c_X0_countIn l hZ hI h0 bx at0 w h i x (by omega) (by omega)) gX0_strayOf_X0_countIn rfl rfl rfl (by decide +kernel) B.1 ⟨Nat.le_of_ble_eq_true rfl, Nat.le_of_ble_eq_true rfl⟩ rfl rfl (Nat.le_of_ble_eq_true rfl) dX0_strayOf_19 ⟨Nat.le_of_ble_eq_true rfl, Nat.le_of_ble_eq_true rfl⟩ [0] [] (by decide : ([0] ++ ([] : List Nat)).Perm (List.range 1)) rfl rfl 22 rfl (fun v0 R0 t0 ht0 hp0 => ?_)
          obtain ⟨rfl, rfl⟩ := hp0
          refine q_eqs (st' := [.int (nI (k_cn bx i x)), .int (nI n)]) rfl ?_
          refine q_eqR (Rs' := [w]) rfl ?_
          have hc19 : k_cn bx i x ≤ (bx i).length := k_cn_le _ _ _
          refine q_iadd (v := nI (n + k_cn bx i x)) C dX0_strayOf_22 23 rfl (q_nadd (by omega)) ?_
          refine q_istore_n C dX0_strayOf_23 24 rfl [(2, .int (nI (n + k_cn bx i x))), (3, .int (nI i)), (0, .ref h0), (1, .int (nI x))] (by decide) rfl ?_
          refine q_iinc (v := nI (i + 1)) C dX0_strayOf_24 27 1 rfl rfl (q_ninc1 (by omega)) [(3, .int (nI (i + 1))), (2, .int (nI (n + k_cn bx i x))), (0, .ref h0), (1, .int (nI x))] (by decide) rfl ?_
          refine q_goto C dX0_strayOf_27 4 (by decide) ?_
          refine q_sub (L' := [(3, .int (nI (i + 1))), (2, .int (nI (n + k_cn bx i x))), (0, .ref h0), (1, .int (nI x))]) [0, 1, 2, 3] rfl ?_
          exact ih_lp (i + 1) (n + k_cn bx i x) (by omega) (by omega) (by rw [k_sum_s]; first | omega | (rw [if_pos (by omega)]; omega) | (rw [if_neg (by omega)]; omega))
  refine q_sub (L' := [(3, .int (nI 0)), (2, .int (nI 0)), (0, .ref h0), (1, .int (nI x))]) [0, 1, 2, 3] rfl ?_
  exact lp _ 0 0 (Nat.lt_succ_self _) (by omega) (by rw [k_sum_0])

set_option maxHeartbeats 4000000 in
set_option maxRecDepth 100000 in
theorem c_X0_types (l : Launch) {D : va_G} {tys : List (ClassId × FieldType)} {Z : (Nat → Prop) → State → Heap → Prop} (hZ : q_St Z) {cI : ClassId} (hI : tys[0]? = some (cI, .int)) (h0 : Nat) (bx : k_Bx) (at0 : Nat) (w : va_W) (h : k_isB cI h0 bx at0 w) : q_Ct l D tys Z yX0_types wsX0_types ({ frames := 2, cells := 0, slots := 0, locals := 72 } : Room) 0 0 [.ref h0] [w] (fun v0 R0 _ => v0 = some (.int (nI (k_ty bx))) ∧ R0 = [w]) := by
  have hcI := hI
  refine q_ct (cc := cX0_types) (maxL := 3) (ret := (some .int)) (own := RX0) (by decide) rfl hZ (Nat.le_of_ble_eq_true rfl) rfl ?_
  intro p9 e9 R s9 m9 args below meth c9 A Q C B
  have hts := C.2.2.2.2.1
  refine q_eqL (L' := [(0, .ref h0)]) rfl ?_
  refine q_iconst (v := nI 0) C dX0_types_0 1 rfl (by decide) ?_
  refine q_istore_n C dX0_types_1 2 rfl [(1, .int (nI 0)), (0, .ref h0)] (by decide) rfl ?_
  refine q_iconst (v := nI 0) C dX0_types_2 3 rfl (by decide) ?_
  refine q_istore_n C dX0_types_3 4 rfl [(2, .int (nI 0)), (1, .int (nI 0)), (0, .ref h0)] (by decide) rfl ?_
  have lp : ∀ (kk : Nat) (i : Nat) (n : Nat), 12 - i < kk → ∀ (hi : i ≤ 12), ∀ (hn : n = k_sum (fun b => (bx b).length) i), q_V p9 l e9 R s9 m9 args below meth c9 D A 3 Q 0 0 4 [(2, .int (nI i)), (1, .int (nI n)), (0, .ref h0)] [] [w] := by
    intro kk
    induction kk with
    | zero => intro i n hkk; exact absurd hkk (Nat.not_lt_zero _)
    | succ kk ih_lp =>
      intro i n hkk hi hn
      refine q_iload_n C dX0_types_4 5 0 rfl rfl ?_
      refine q_bipush (v := nI 12) C dX0_types_5 7 rfl (by decide) ?_
      refine q_icmp_ge C dX0_types_7 10 24 rfl (by decide) (nI_leI (by omega) (by omega)) (fun h7 => ?_) (fun h7 => ?_)
      · refine q_iload_n C dX0_types_24 25 1 rfl rfl ?_
        exact q_iret C B dX0_types_25 rfl rfl (fun t0 ht0 => ⟨by rw [hn, show i = 12 by omega]; rfl, rfl⟩)
      · refine q_iload_n C dX0_types_10 11 1 rfl rfl ?_
        refine q_aload_n C dX0_types_11 12 2 rfl rfl ?_
        refine q_iload_n C dX0_types_12 13 0 rfl rfl ?_
        refine q_callV (k := 0) (ci := 0) (n := 1) (rest := [.int (nI n)]) (Rr := []) C rfl (k_isB_recv h) rfl (c_X0_heightOf l hZ hI h0 bx at0 w h i (by omega)) gX0_types_X0_heightOf rfl rfl rfl (by decide +kernel) B.1 ⟨Nat.le_of_ble_eq_true rfl, Nat.le_of_ble_eq_true rfl⟩ rfl rfl (Nat.le_of_ble_eq_true rfl) dX0_types_13 ⟨Nat.le_of_ble_eq_true rfl, Nat.le_of_ble_eq_true rfl⟩ [0] [] (by decide : ([0] ++ ([] : List Nat)).Perm (List.range 1)) rfl rfl 16 rfl (fun v0 R0 t0 ht0 hp0 => ?_)
        obtain ⟨rfl, rfl⟩ := hp0
        refine q_eqs (st' := [.int (nI ((bx i).length)), .int (nI n)]) rfl ?_
        refine q_eqR (Rs' := [w]) rfl ?_
        have hh13 : (bx i).length ≤ 20 := (h.2.1 i (by omega)).1
        refine q_iadd (v := nI (n + (bx i).length)) C dX0_types_16 17 rfl (q_nadd (by omega)) ?_
        refine q_istore_n C dX0_types_17 18 rfl [(1, .int (nI (n + (bx i).length))), (2, .int (nI i)), (0, .ref h0)] (by decide) rfl ?_
        refine q_iinc (v := nI (i + 1)) C dX0_types_18 21 1 rfl rfl (q_ninc1 (by omega)) [(2, .int (nI (i + 1))), (1, .int (nI (n + (bx i).length))), (0, .ref h0)] (by decide) rfl ?_
        refine q_goto C dX0_types_21 4 (by decide) ?_
        refine q_sub (L' := [(2, .int (nI (i + 1))), (1, .int (nI (n + (bx i).length))), (0, .ref h0)]) [0, 1, 2] rfl ?_
        exact ih_lp (i + 1) (n + (bx i).length) (by omega) (by omega) (by rw [k_sum_s]; first | omega | (rw [if_pos (by omega)]; omega) | (rw [if_neg (by omega)]; omega))
  refine q_sub (L' := [(2, .int (nI 0)), (1, .int (nI 0)), (0, .ref h0)]) [0, 1, 2] rfl ?_
  exact lp _ 0 0 (Nat.lt_succ_self _) (by omega) (by rw [k_sum_0])

set_option maxHeartbeats 4000000 in
set_option maxRecDepth 100000 in
theorem c_X0_depthOfRight (l : Launch) {D : va_G} {tys : List (ClassId × FieldType)} {Z : (Nat → Prop) → State → Heap → Prop} (hZ : q_St Z) {cI : ClassId} (hI : tys[0]? = some (cI, .int)) (h0 : Nat) (bx : k_Bx) (at0 : Nat) (w : va_W) (h : k_isB cI h0 bx at0 w) (b : Nat) (hb : b < 12) : q_Ct l D tys Z yX0_depthOfRight wsX0_depthOfRight ({ frames := 2, cells := 0, slots := 0, locals := 72 } : Room) 0 0 [.ref h0, .int (nI b)] [w] (fun v0 R0 _ => v0 = some (.int (k_dp bx b)) ∧ R0 = [w]) := by
  have hcI := hI
  refine q_ct (cc := cX0_depthOfRight) (maxL := 4) (ret := (some .int)) (own := RX0) (by decide) rfl hZ (Nat.le_of_ble_eq_true rfl) rfl ?_
  intro p9 e9 R s9 m9 args below meth c9 A Q C B
  have hts := C.2.2.2.2.1
  refine q_eqL (L' := [(0, .ref h0), (1, .int (nI b))]) rfl ?_
  refine q_aload_n C dX0_depthOfRight_0 1 0 rfl rfl ?_
  refine q_iload_n C dX0_depthOfRight_1 2 1 rfl rfl ?_
  refine q_callV (k := 0) (ci := 0) (n := 1) (rest := []) (Rr := []) C rfl (k_isB_recv h) rfl (c_X0_heightOf l hZ hI h0 bx at0 w h b (by omega)) gX0_depthOfRight_X0_heightOf rfl rfl rfl (by decide +kernel) B.1 ⟨Nat.le_of_ble_eq_true rfl, Nat.le_of_ble_eq_true rfl⟩ rfl rfl (Nat.le_of_ble_eq_true rfl) dX0_depthOfRight_2 ⟨Nat.le_of_ble_eq_true rfl, Nat.le_of_ble_eq_true rfl⟩ [0] [] (by decide : ([0] ++ ([] : List Nat)).Perm (List.range 1)) rfl rfl 5 rfl (fun v0 R0 t0 ht0 hp0 => ?_)
  obtain ⟨rfl, rfl⟩ := hp0
  refine q_eqs (st' := [.int (nI ((bx b).length))]) rfl ?_
  refine q_eqR (Rs' := [w]) rfl ?_
  have hh2 : (bx b).length ≤ 20 := (h.2.1 b (by omega)).1
  refine q_istore_n C dX0_depthOfRight_5 6 rfl [(2, .int (nI ((bx b).length))), (0, .ref h0), (1, .int (nI b))] (by decide) rfl ?_
  refine q_iconst (v := nI 0) C dX0_depthOfRight_6 7 rfl (by decide) ?_
  refine q_istore_n C dX0_depthOfRight_7 8 rfl [(3, .int (nI 0)), (2, .int (nI ((bx b).length))), (0, .ref h0), (1, .int (nI b))] (by decide) rfl ?_
  have lp : ∀ (kk : Nat) (i : Nat), (bx b).length - i < kk → ∀ (hi : i ≤ (bx b).length), ∀ (hn : k_rt bx b = k_last (fun i => k_at (bx b) i == b) ((bx b).length - i)), q_V p9 l e9 R s9 m9 args below meth c9 D A 4 Q 0 0 8 [(3, .int (nI i)), (2, .int (nI ((bx b).length))), (0, .ref h0), (1, .int (nI b))] [] [w] := by
    intro kk
    induction kk with
    | zero => intro i hkk; exact absurd hkk (Nat.not_lt_zero _)
    | succ kk ih_lp =>
      intro i hkk hi hn
      refine q_iload_n C dX0_depthOfRight_8 9 0 rfl rfl ?_
      refine q_iload_n C dX0_depthOfRight_9 10 1 rfl rfl ?_
      refine q_icmp_ge C dX0_depthOfRight_10 13 31 rfl (by decide) (nI_leI (by omega) (by omega)) (fun h10 => ?_) (fun h10 => ?_)
      · refine q_iconst (v := -1) C dX0_depthOfRight_31 32 rfl (by decide) ?_
        exact q_iret C B dX0_depthOfRight_32 rfl rfl (fun t0 ht0 => ⟨by rw [show (bx b).length - i = 0 by omega] at hn; rw [k_dp_none hn], rfl⟩)
      · refine q_aload_n C dX0_depthOfRight_13 14 2 rfl rfl ?_
        refine q_iload_n C dX0_depthOfRight_14 15 3 rfl rfl ?_
        refine q_iload_n C dX0_depthOfRight_15 16 0 rfl rfl ?_
        refine q_callV (k := 0) (ci := 0) (n := 2) (rest := []) (Rr := []) C rfl (k_isB_recv h) rfl (c_X0_typeAt_s l hZ hI h0 bx at0 w h b i (by omega) (by omega)) gX0_depthOfRight_X0_typeAt rfl rfl rfl (by decide +kernel) B.1 ⟨Nat.le_of_ble_eq_true rfl, Nat.le_of_ble_eq_true rfl⟩ rfl rfl (Nat.le_of_ble_eq_true rfl) dX0_depthOfRight_16 ⟨Nat.le_of_ble_eq_true rfl, Nat.le_of_ble_eq_true rfl⟩ [0] [] (by decide : ([0] ++ ([] : List Nat)).Perm (List.range 1)) rfl rfl 19 rfl (fun v0 R0 t0 ht0 hp0 => ?_)
        obtain ⟨rfl, rfl⟩ := hp0
        refine q_eqs (st' := [.int (nI (k_at (bx b) ((bx b).length - 1 - i)))]) rfl ?_
        refine q_eqR (Rs' := [w]) rfl ?_
        have ht16 : k_at (bx b) ((bx b).length - 1 - i) < 12 := k_at_lt (h.2.1 b (by omega)).2 (by omega)
        refine q_iload_n C dX0_depthOfRight_19 20 3 rfl rfl ?_
        refine q_icmp_ne C dX0_depthOfRight_20 23 25 rfl (by decide) (nI_eq (by omega) (by omega)) (fun h20 => ?_) (fun h20 => ?_)
        · refine q_iinc (v := nI (i + 1)) C dX0_depthOfRight_25 28 0 rfl rfl (q_ninc1 (by omega)) [(3, .int (nI (i + 1))), (2, .int (nI ((bx b).length))), (0, .ref h0), (1, .int (nI b))] (by decide) rfl ?_
          refine q_goto C dX0_depthOfRight_28 8 (by decide) ?_
          refine q_sub (L' := [(3, .int (nI (i + 1))), (2, .int (nI ((bx b).length))), (0, .ref h0), (1, .int (nI b))]) [0, 1, 2, 3] rfl ?_
          exact ih_lp (i + 1) (by omega) (by omega) (by rw [hn, show (bx b).length - i = (bx b).length - 1 - i + 1 by omega, k_last_f (by simp; omega), show (bx b).length - 1 - i = (bx b).length - (i + 1) by omega])
        · refine q_iload_n C dX0_depthOfRight_23 24 0 rfl rfl ?_
          exact q_iret C B dX0_depthOfRight_24 rfl rfl (fun t0 ht0 => ⟨by rw [show (bx b).length - i = (bx b).length - 1 - i + 1 by omega, k_last_t (by simp; omega)] at hn; rw [k_dp_some hn, show (bx b).length - 1 - ((bx b).length - 1 - i) = i by omega], rfl⟩)
  refine q_sub (L' := [(3, .int (nI 0)), (2, .int (nI ((bx b).length))), (0, .ref h0), (1, .int (nI b))]) [0, 1, 2, 3] rfl ?_
  exact lp _ 0 (Nat.lt_succ_self _) (by omega) rfl

set_option maxHeartbeats 4000000 in
set_option maxRecDepth 100000 in
theorem c_X0_sortInOneBeat (l : Launch) {D : va_G} {tys : List (ClassId × FieldType)} {Z : (Nat → Prop) → State → Heap → Prop} (hZ : q_St Z) {cI : ClassId} (hI : tys[0]? = some (cI, .int)) (h0 : Nat) (bx : k_Bx) (at0 : Nat) (w : va_W) (h : k_isB cI h0 bx at0 w) (hd : Int32) : q_Ct l D tys Z yX0_sortInOneBeat wsX0_sortInOneBeat ({ frames := 2, cells := 0, slots := 0, locals := 72 } : Room) 0 0 [.ref h0, .int hd] [w] (fun v0 R0 _ => v0 = some (.int (q_b (k_mv bx at0 hd))) ∧ ∃ w', k_isB cI h0 (k_nb bx at0 hd) (k_na bx at0 hd) w' ∧ R0 = [w']) := by
  have hcI := hI
  refine q_ct (cc := cX0_sortInOneBeat) (maxL := 4) (ret := (some .boolean)) (own := RX0) (by decide) rfl hZ (Nat.le_of_ble_eq_true rfl) rfl ?_
  intro p9 e9 R s9 m9 args below meth c9 A Q C B
  have hts := C.2.2.2.2.1
  have hinX0 : ∀ w ∈ u_ws RX0 TX0 3, w ∈ wsX0_sortInOneBeat := by decide +kernel
  have f18 := hts (.fieldLink RX0 18 "SortCases$Boxes" "sortedBox" "I") (by decide +kernel)
  refine q_eqL (L' := [(0, .ref h0), (1, .int hd)]) rfl ?_
  obtain ⟨hat, hok, hs, hh, fs, fh, hrel, rfl⟩ := h
  have hB : k_isB cI h0 bx at0 [(h0, .inr (0, [.ref hs, .ref hh, .int (nI at0)])), (hs, .inl (cI, 240, .inl fs)), (hh, .inl (cI, 12, .inl fh))] := ⟨hat, hok, hs, hh, fs, fh, hrel, rfl⟩
  refine q_aload_n C dX0_sortInOneBeat_0 1 0 rfl rfl ?_
  refine q_aload_n C dX0_sortInOneBeat_1 2 0 rfl rfl ?_
  refine q_get (k := 0) (j := 0) (f := 2) C hinX0 f18 (fun _ h => h) (by decide) rfl dX0_sortInOneBeat_2 5 rfl rfl rfl rfl ?_
  refine q_iconst (v := nI 0) C dX0_sortInOneBeat_5 6 rfl (by decide) ?_
  refine q_callV (k := 0) (ci := 0) (n := 2) (rest := []) (Rr := []) C rfl (k_isB_recv hB) rfl (c_X0_typeAt l hZ hI h0 bx at0 ([(h0, .inr (0, [.ref hs, .ref hh, .int (nI at0)])), (hs, .inl (cI, 240, .inl fs)), (hh, .inl (cI, 12, .inl fh))]) hB at0 0 (by omega) (by omega)) gX0_sortInOneBeat_X0_typeAt rfl rfl rfl (by decide +kernel) B.1 ⟨Nat.le_of_ble_eq_true rfl, Nat.le_of_ble_eq_true rfl⟩ rfl rfl (Nat.le_of_ble_eq_true rfl) dX0_sortInOneBeat_6 ⟨Nat.le_of_ble_eq_true rfl, Nat.le_of_ble_eq_true rfl⟩ [0] [] (by decide : ([0] ++ ([] : List Nat)).Perm (List.range 1)) rfl rfl 9 rfl (fun v0 R0 t0 ht0 hp0 => ?_)
  obtain ⟨rfl, rfl⟩ := hp0
  refine q_eqs (st' := [.int (k_top bx at0 0)]) rfl ?_
  refine q_eqR (Rs' := [[(h0, .inr (0, [.ref hs, .ref hh, .int (nI at0)])), (hs, .inl (cI, 240, .inl fs)), (hh, .inl (cI, 12, .inl fh))]]) rfl ?_
  refine q_topi (fun r6 hr6 => ?_)
  rcases Nat.eq_zero_or_pos (bx at0).length with he | he
  · rw [k_top_none (by omega)] at hr6; subst hr6
    have hmv : k_mv bx at0 hd = false := decide_eq_false (fun hh => absurd hh.1 (by omega))
    refine q_istore_n C dX0_sortInOneBeat_9 10 rfl [(2, .int (-1)), (0, .ref h0), (1, .int hd)] (by decide) rfl ?_
    refine q_iload_n C dX0_sortInOneBeat_10 11 0 rfl rfl ?_
    refine q_iconst (v := -1) C dX0_sortInOneBeat_11 12 rfl (by decide) ?_
    refine q_icmp_eq (P := True) C dX0_sortInOneBeat_12 15 27 rfl (by decide) ⟨fun _ => trivial, fun _ => rfl⟩ (fun h12 => ?_) (fun h12 => False.elim (by first | omega | simp_all))
    refine q_iconst (v := nI 0) C dX0_sortInOneBeat_27 28 rfl (by decide) ?_
    refine q_istore_n C dX0_sortInOneBeat_28 29 rfl [(3, .int (nI 0)), (2, .int (-1)), (0, .ref h0), (1, .int hd)] (by decide) rfl ?_
    refine q_iload_n C dX0_sortInOneBeat_29 30 0 rfl rfl ?_
    refine q_if_eq C dX0_sortInOneBeat_30 33 70 rfl (by decide) (q_eq0 (by omega)) (fun h30 => ?_) (fun h30 => False.elim (by first | omega | simp_all))
    refine q_aload_n C dX0_sortInOneBeat_70 71 2 rfl rfl ?_
    refine q_aload_n C dX0_sortInOneBeat_71 72 2 rfl rfl ?_
    refine q_get (k := 0) (j := 0) (f := 2) C hinX0 f18 (fun _ h => h) (by decide) rfl dX0_sortInOneBeat_72 75 rfl rfl rfl rfl ?_
    refine q_iconst (v := nI 1) C dX0_sortInOneBeat_75 76 rfl (by decide) ?_
    refine q_iadd (v := nI (at0 + 1)) C dX0_sortInOneBeat_76 77 rfl (q_nadd (by omega)) ?_
    refine q_bipush (v := nI 12) C dX0_sortInOneBeat_77 79 rfl (by decide) ?_
    refine q_icmp_ge C dX0_sortInOneBeat_79 82 91 rfl (by decide) (nI_leI (by omega) (by omega)) (fun h79 => ?_) (fun h79 => ?_)
    · refine q_iconst (v := nI 0) C dX0_sortInOneBeat_91 92 rfl (by decide) ?_
      refine q_put (k := 0) (j := 0) (f := 2) C hinX0 tyX0 tyX0_ok nmX0 f18 (fun _ h => h) (by decide) rfl rfl (tyX0_ok 2 (by decide)) rfl rfl dX0_sortInOneBeat_92 95 rfl rfl rfl (Nat.le_of_ble_eq_true rfl) [[(h0, .inr (0, [.ref hs, .ref hh, .int (nI 0)])), (hs, .inl (cI, 240, .inl fs)), (hh, .inl (cI, 12, .inl fh))]] rfl ?_
      refine q_iconst (v := nI 0) C dX0_sortInOneBeat_95 96 rfl (by decide) ?_
      exact q_zret C B (by decide) dX0_sortInOneBeat_96 rfl rfl (fun t0 ht0 => ⟨by rw [hmv]; rfl, _, by rw [k_nb, k_na, if_neg (by simp [hmv]), if_neg (by simp [hmv])]; (first | rw [if_pos (by omega)] | rw [if_neg (by omega)]); exact ⟨by omega, hok, hs, hh, _, _, hrel, rfl⟩, rfl⟩)
    · refine q_aload_n C dX0_sortInOneBeat_82 83 2 rfl rfl ?_
      refine q_get (k := 0) (j := 0) (f := 2) C hinX0 f18 (fun _ h => h) (by decide) rfl dX0_sortInOneBeat_83 86 rfl rfl rfl rfl ?_
      refine q_iconst (v := nI 1) C dX0_sortInOneBeat_86 87 rfl (by decide) ?_
      refine q_iadd (v := nI (at0 + 1)) C dX0_sortInOneBeat_87 88 rfl (q_nadd (by omega)) ?_
      refine q_goto C dX0_sortInOneBeat_88 92 (by decide) ?_
      refine q_put (k := 0) (j := 0) (f := 2) C hinX0 tyX0 tyX0_ok nmX0 f18 (fun _ h => h) (by decide) rfl rfl (tyX0_ok 2 (by decide)) rfl rfl dX0_sortInOneBeat_92 95 rfl rfl rfl (Nat.le_of_ble_eq_true rfl) [[(h0, .inr (0, [.ref hs, .ref hh, .int (nI (at0 + 1))])), (hs, .inl (cI, 240, .inl fs)), (hh, .inl (cI, 12, .inl fh))]] rfl ?_
      refine q_iconst (v := nI 0) C dX0_sortInOneBeat_95 96 rfl (by decide) ?_
      exact q_zret C B (by decide) dX0_sortInOneBeat_96 rfl rfl (fun t0 ht0 => ⟨by rw [hmv]; rfl, _, by rw [k_nb, k_na, if_neg (by simp [hmv]), if_neg (by simp [hmv])]; (first | rw [if_pos (by omega)] | rw [if_neg (by omega)]); exact ⟨by omega, hok, hs, hh, _, _, hrel, rfl⟩, rfl⟩)
  · have hx : r6 = nI (k_x bx at0) := hr6.trans (k_top_some he)
    have hxl := k_x_lt hok hat he
    obtain ⟨x, ex⟩ : ∃ x, x = k_x bx at0 := ⟨_, rfl⟩
    rw [← ex] at hx hxl
    subst hx
    refine q_istore_n C dX0_sortInOneBeat_9 10 rfl [(2, .int (nI x)), (0, .ref h0), (1, .int hd)] (by decide) rfl ?_
    refine q_iload_n C dX0_sortInOneBeat_10 11 0 rfl rfl ?_
    refine q_iconst (v := -1) C dX0_sortInOneBeat_11 12 rfl (by decide) ?_
    refine q_icmp_eq (P := False) C dX0_sortInOneBeat_12 15 27 rfl (by decide) (q_m1 (by omega)) (fun h12 => False.elim (by first | omega | simp_all)) (fun h12 => ?_)
    refine q_iload_n C dX0_sortInOneBeat_15 16 0 rfl rfl ?_
    refine q_aload_n C dX0_sortInOneBeat_16 17 1 rfl rfl ?_
    refine q_get (k := 0) (j := 0) (f := 2) C hinX0 f18 (fun _ h => h) (by decide) rfl dX0_sortInOneBeat_17 20 rfl rfl rfl rfl ?_
    refine q_icmp_eq C dX0_sortInOneBeat_20 23 27 rfl (by decide) (nI_eq (by omega) (by omega)) (fun h20 => ?_) (fun h20 => ?_)
    · refine q_iconst (v := nI 0) C dX0_sortInOneBeat_27 28 rfl (by decide) ?_
      refine q_istore_n C dX0_sortInOneBeat_28 29 rfl [(3, .int (nI 0)), (2, .int (nI x)), (0, .ref h0), (1, .int hd)] (by decide) rfl ?_
      refine q_iload_n C dX0_sortInOneBeat_29 30 0 rfl rfl ?_
      refine q_if_eq C dX0_sortInOneBeat_30 33 70 rfl (by decide) (q_eq0 (by omega)) (fun h30 => ?_) (fun h30 => False.elim (by first | omega | simp_all))
      have hmv : k_mv bx at0 hd = false := by unfold k_mv; rw [← ex]; exact decide_eq_false (fun hh => by obtain ⟨g1, g2, g3, g4, g5⟩ := hh; first | contradiction | omega)
      refine q_aload_n C dX0_sortInOneBeat_70 71 2 rfl rfl ?_
      refine q_aload_n C dX0_sortInOneBeat_71 72 2 rfl rfl ?_
      refine q_get (k := 0) (j := 0) (f := 2) C hinX0 f18 (fun _ h => h) (by decide) rfl dX0_sortInOneBeat_72 75 rfl rfl rfl rfl ?_
      refine q_iconst (v := nI 1) C dX0_sortInOneBeat_75 76 rfl (by decide) ?_
      refine q_iadd (v := nI (at0 + 1)) C dX0_sortInOneBeat_76 77 rfl (q_nadd (by omega)) ?_
      refine q_bipush (v := nI 12) C dX0_sortInOneBeat_77 79 rfl (by decide) ?_
      refine q_icmp_ge C dX0_sortInOneBeat_79 82 91 rfl (by decide) (nI_leI (by omega) (by omega)) (fun h79 => ?_) (fun h79 => ?_)
      · refine q_iconst (v := nI 0) C dX0_sortInOneBeat_91 92 rfl (by decide) ?_
        refine q_put (k := 0) (j := 0) (f := 2) C hinX0 tyX0 tyX0_ok nmX0 f18 (fun _ h => h) (by decide) rfl rfl (tyX0_ok 2 (by decide)) rfl rfl dX0_sortInOneBeat_92 95 rfl rfl rfl (Nat.le_of_ble_eq_true rfl) [[(h0, .inr (0, [.ref hs, .ref hh, .int (nI 0)])), (hs, .inl (cI, 240, .inl fs)), (hh, .inl (cI, 12, .inl fh))]] rfl ?_
        refine q_iconst (v := nI 0) C dX0_sortInOneBeat_95 96 rfl (by decide) ?_
        exact q_zret C B (by decide) dX0_sortInOneBeat_96 rfl rfl (fun t0 ht0 => ⟨by rw [hmv]; rfl, _, by rw [k_nb, k_na, if_neg (by simp [hmv]), if_neg (by simp [hmv])]; (first | rw [if_pos (by omega)] | rw [if_neg (by omega)]); exact ⟨by omega, hok, hs, hh, _, _, hrel, rfl⟩, rfl⟩)
      · refine q_aload_n C dX0_sortInOneBeat_82 83 2 rfl rfl ?_
        refine q_get (k := 0) (j := 0) (f := 2) C hinX0 f18 (fun _ h => h) (by decide) rfl dX0_sortInOneBeat_83 86 rfl rfl rfl rfl ?_
        refine q_iconst (v := nI 1) C dX0_sortInOneBeat_86 87 rfl (by decide) ?_
        refine q_iadd (v := nI (at0 + 1)) C dX0_sortInOneBeat_87 88 rfl (q_nadd (by omega)) ?_
        refine q_goto C dX0_sortInOneBeat_88 92 (by decide) ?_
        refine q_put (k := 0) (j := 0) (f := 2) C hinX0 tyX0 tyX0_ok nmX0 f18 (fun _ h => h) (by decide) rfl rfl (tyX0_ok 2 (by decide)) rfl rfl dX0_sortInOneBeat_92 95 rfl rfl rfl (Nat.le_of_ble_eq_true rfl) [[(h0, .inr (0, [.ref hs, .ref hh, .int (nI (at0 + 1))])), (hs, .inl (cI, 240, .inl fs)), (hh, .inl (cI, 12, .inl fh))]] rfl ?_
        refine q_iconst (v := nI 0) C dX0_sortInOneBeat_95 96 rfl (by decide) ?_
        exact q_zret C B (by decide) dX0_sortInOneBeat_96 rfl rfl (fun t0 ht0 => ⟨by rw [hmv]; rfl, _, by rw [k_nb, k_na, if_neg (by simp [hmv]), if_neg (by simp [hmv])]; (first | rw [if_pos (by omega)] | rw [if_neg (by omega)]); exact ⟨by omega, hok, hs, hh, _, _, hrel, rfl⟩, rfl⟩)
    · refine q_iconst (v := nI 1) C dX0_sortInOneBeat_23 24 rfl (by decide) ?_
      refine q_goto C dX0_sortInOneBeat_24 28 (by decide) ?_
      refine q_istore_n C dX0_sortInOneBeat_28 29 rfl [(3, .int (nI 1)), (2, .int (nI x)), (0, .ref h0), (1, .int hd)] (by decide) rfl ?_
      refine q_iload_n C dX0_sortInOneBeat_29 30 0 rfl rfl ?_
      refine q_if_eq C dX0_sortInOneBeat_30 33 70 rfl (by decide) (q_eq0 (by omega)) (fun h30 => False.elim (by first | omega | simp_all)) (fun h30 => ?_)
      refine q_aload_n C dX0_sortInOneBeat_33 34 2 rfl rfl ?_
      refine q_get (k := 0) (j := 0) (f := 2) C hinX0 f18 (fun _ h => h) (by decide) rfl dX0_sortInOneBeat_34 37 rfl rfl rfl rfl ?_
      refine q_iload_n C dX0_sortInOneBeat_37 38 3 rfl rfl ?_
      refine q_icmp_eq C dX0_sortInOneBeat_38 41 70 rfl (by decide) Iff.rfl (fun h38 => ?_) (fun h38 => ?_)
      · have hmv : k_mv bx at0 hd = false := by unfold k_mv; rw [← ex]; exact decide_eq_false (fun hh => by obtain ⟨g1, g2, g3, g4, g5⟩ := hh; first | contradiction | omega)
        refine q_aload_n C dX0_sortInOneBeat_70 71 2 rfl rfl ?_
        refine q_aload_n C dX0_sortInOneBeat_71 72 2 rfl rfl ?_
        refine q_get (k := 0) (j := 0) (f := 2) C hinX0 f18 (fun _ h => h) (by decide) rfl dX0_sortInOneBeat_72 75 rfl rfl rfl rfl ?_
        refine q_iconst (v := nI 1) C dX0_sortInOneBeat_75 76 rfl (by decide) ?_
        refine q_iadd (v := nI (at0 + 1)) C dX0_sortInOneBeat_76 77 rfl (q_nadd (by omega)) ?_
        refine q_bipush (v := nI 12) C dX0_sortInOneBeat_77 79 rfl (by decide) ?_
        refine q_icmp_ge C dX0_sortInOneBeat_79 82 91 rfl (by decide) (nI_leI (by omega) (by omega)) (fun h79 => ?_) (fun h79 => ?_)
        · refine q_iconst (v := nI 0) C dX0_sortInOneBeat_91 92 rfl (by decide) ?_
          refine q_put (k := 0) (j := 0) (f := 2) C hinX0 tyX0 tyX0_ok nmX0 f18 (fun _ h => h) (by decide) rfl rfl (tyX0_ok 2 (by decide)) rfl rfl dX0_sortInOneBeat_92 95 rfl rfl rfl (Nat.le_of_ble_eq_true rfl) [[(h0, .inr (0, [.ref hs, .ref hh, .int (nI 0)])), (hs, .inl (cI, 240, .inl fs)), (hh, .inl (cI, 12, .inl fh))]] rfl ?_
          refine q_iconst (v := nI 0) C dX0_sortInOneBeat_95 96 rfl (by decide) ?_
          exact q_zret C B (by decide) dX0_sortInOneBeat_96 rfl rfl (fun t0 ht0 => ⟨by rw [hmv]; rfl, _, by rw [k_nb, k_na, if_neg (by simp [hmv]), if_neg (by simp [hmv])]; (first | rw [if_pos (by omega)] | rw [if_neg (by omega)]); exact ⟨by omega, hok, hs, hh, _, _, hrel, rfl⟩, rfl⟩)
        · refine q_aload_n C dX0_sortInOneBeat_82 83 2 rfl rfl ?_
          refine q_get (k := 0) (j := 0) (f := 2) C hinX0 f18 (fun _ h => h) (by decide) rfl dX0_sortInOneBeat_83 86 rfl rfl rfl rfl ?_
          refine q_iconst (v := nI 1) C dX0_sortInOneBeat_86 87 rfl (by decide) ?_
          refine q_iadd (v := nI (at0 + 1)) C dX0_sortInOneBeat_87 88 rfl (q_nadd (by omega)) ?_
          refine q_goto C dX0_sortInOneBeat_88 92 (by decide) ?_
          refine q_put (k := 0) (j := 0) (f := 2) C hinX0 tyX0 tyX0_ok nmX0 f18 (fun _ h => h) (by decide) rfl rfl (tyX0_ok 2 (by decide)) rfl rfl dX0_sortInOneBeat_92 95 rfl rfl rfl (Nat.le_of_ble_eq_true rfl) [[(h0, .inr (0, [.ref hs, .ref hh, .int (nI (at0 + 1))])), (hs, .inl (cI, 240, .inl fs)), (hh, .inl (cI, 12, .inl fh))]] rfl ?_
          refine q_iconst (v := nI 0) C dX0_sortInOneBeat_95 96 rfl (by decide) ?_
          exact q_zret C B (by decide) dX0_sortInOneBeat_96 rfl rfl (fun t0 ht0 => ⟨by rw [hmv]; rfl, _, by rw [k_nb, k_na, if_neg (by simp [hmv]), if_neg (by simp [hmv])]; (first | rw [if_pos (by omega)] | rw [if_neg (by omega)]); exact ⟨by omega, hok, hs, hh, _, _, hrel, rfl⟩, rfl⟩)
      · refine q_iload_n C dX0_sortInOneBeat_41 42 1 rfl rfl ?_
        refine q_iload_n C dX0_sortInOneBeat_42 43 3 rfl rfl ?_
        refine q_icmp_eq C dX0_sortInOneBeat_43 46 70 rfl (by decide) Iff.rfl (fun h43 => ?_) (fun h43 => ?_)
        · have hmv : k_mv bx at0 hd = false := by unfold k_mv; rw [← ex]; exact decide_eq_false (fun hh => by obtain ⟨g1, g2, g3, g4, g5⟩ := hh; first | contradiction | omega)
          refine q_aload_n C dX0_sortInOneBeat_70 71 2 rfl rfl ?_
          refine q_aload_n C dX0_sortInOneBeat_71 72 2 rfl rfl ?_
          refine q_get (k := 0) (j := 0) (f := 2) C hinX0 f18 (fun _ h => h) (by decide) rfl dX0_sortInOneBeat_72 75 rfl rfl rfl rfl ?_
          refine q_iconst (v := nI 1) C dX0_sortInOneBeat_75 76 rfl (by decide) ?_
          refine q_iadd (v := nI (at0 + 1)) C dX0_sortInOneBeat_76 77 rfl (q_nadd (by omega)) ?_
          refine q_bipush (v := nI 12) C dX0_sortInOneBeat_77 79 rfl (by decide) ?_
          refine q_icmp_ge C dX0_sortInOneBeat_79 82 91 rfl (by decide) (nI_leI (by omega) (by omega)) (fun h79 => ?_) (fun h79 => ?_)
          · refine q_iconst (v := nI 0) C dX0_sortInOneBeat_91 92 rfl (by decide) ?_
            refine q_put (k := 0) (j := 0) (f := 2) C hinX0 tyX0 tyX0_ok nmX0 f18 (fun _ h => h) (by decide) rfl rfl (tyX0_ok 2 (by decide)) rfl rfl dX0_sortInOneBeat_92 95 rfl rfl rfl (Nat.le_of_ble_eq_true rfl) [[(h0, .inr (0, [.ref hs, .ref hh, .int (nI 0)])), (hs, .inl (cI, 240, .inl fs)), (hh, .inl (cI, 12, .inl fh))]] rfl ?_
            refine q_iconst (v := nI 0) C dX0_sortInOneBeat_95 96 rfl (by decide) ?_
            exact q_zret C B (by decide) dX0_sortInOneBeat_96 rfl rfl (fun t0 ht0 => ⟨by rw [hmv]; rfl, _, by rw [k_nb, k_na, if_neg (by simp [hmv]), if_neg (by simp [hmv])]; (first | rw [if_pos (by omega)] | rw [if_neg (by omega)]); exact ⟨by omega, hok, hs, hh, _, _, hrel, rfl⟩, rfl⟩)
          · refine q_aload_n C dX0_sortInOneBeat_82 83 2 rfl rfl ?_
            refine q_get (k := 0) (j := 0) (f := 2) C hinX0 f18 (fun _ h => h) (by decide) rfl dX0_sortInOneBeat_83 86 rfl rfl rfl rfl ?_
            refine q_iconst (v := nI 1) C dX0_sortInOneBeat_86 87 rfl (by decide) ?_
            refine q_iadd (v := nI (at0 + 1)) C dX0_sortInOneBeat_87 88 rfl (q_nadd (by omega)) ?_
            refine q_goto C dX0_sortInOneBeat_88 92 (by decide) ?_
            refine q_put (k := 0) (j := 0) (f := 2) C hinX0 tyX0 tyX0_ok nmX0 f18 (fun _ h => h) (by decide) rfl rfl (tyX0_ok 2 (by decide)) rfl rfl dX0_sortInOneBeat_92 95 rfl rfl rfl (Nat.le_of_ble_eq_true rfl) [[(h0, .inr (0, [.ref hs, .ref hh, .int (nI (at0 + 1))])), (hs, .inl (cI, 240, .inl fs)), (hh, .inl (cI, 12, .inl fh))]] rfl ?_
            refine q_iconst (v := nI 0) C dX0_sortInOneBeat_95 96 rfl (by decide) ?_
            exact q_zret C B (by decide) dX0_sortInOneBeat_96 rfl rfl (fun t0 ht0 => ⟨by rw [hmv]; rfl, _, by rw [k_nb, k_na, if_neg (by simp [hmv]), if_neg (by simp [hmv])]; (first | rw [if_pos (by omega)] | rw [if_neg (by omega)]); exact ⟨by omega, hok, hs, hh, _, _, hrel, rfl⟩, rfl⟩)
        · refine q_aload_n C dX0_sortInOneBeat_46 47 2 rfl rfl ?_
          refine q_iload_n C dX0_sortInOneBeat_47 48 1 rfl rfl ?_
          refine q_callV (k := 0) (ci := 0) (n := 1) (rest := []) (Rr := []) C rfl (k_isB_recv hB) rfl (c_X0_hasRoom l hZ hI h0 bx at0 ([(h0, .inr (0, [.ref hs, .ref hh, .int (nI at0)])), (hs, .inl (cI, 240, .inl fs)), (hh, .inl (cI, 12, .inl fh))]) hB x (by omega)) gX0_sortInOneBeat_X0_hasRoom rfl rfl rfl (by decide +kernel) B.1 ⟨Nat.le_of_ble_eq_true rfl, Nat.le_of_ble_eq_true rfl⟩ rfl rfl (Nat.le_of_ble_eq_true rfl) dX0_sortInOneBeat_48 ⟨Nat.le_of_ble_eq_true rfl, Nat.le_of_ble_eq_true rfl⟩ [0] [] (by decide : ([0] ++ ([] : List Nat)).Perm (List.range 1)) rfl rfl 51 rfl (fun v0 R0 t0 ht0 hp0 => ?_)
          obtain ⟨rfl, rfl⟩ := hp0
          refine q_eqs (st' := [.int (q_b (decide ((bx x).length < 20)))]) rfl ?_
          refine q_eqR (Rs' := [[(h0, .inr (0, [.ref hs, .ref hh, .int (nI at0)])), (hs, .inl (cI, 240, .inl fs)), (hh, .inl (cI, 12, .inl fh))]]) rfl ?_
          refine q_if_eq (P := ¬ ((bx x).length < 20)) C dX0_sortInOneBeat_51 54 70 rfl (by decide) q_bd0 (fun h51 => ?_) (fun h51 => ?_)
          · have hmv : k_mv bx at0 hd = false := by unfold k_mv; rw [← ex]; exact decide_eq_false (fun hh => by obtain ⟨g1, g2, g3, g4, g5⟩ := hh; first | contradiction | omega)
            refine q_aload_n C dX0_sortInOneBeat_70 71 2 rfl rfl ?_
            refine q_aload_n C dX0_sortInOneBeat_71 72 2 rfl rfl ?_
            refine q_get (k := 0) (j := 0) (f := 2) C hinX0 f18 (fun _ h => h) (by decide) rfl dX0_sortInOneBeat_72 75 rfl rfl rfl rfl ?_
            refine q_iconst (v := nI 1) C dX0_sortInOneBeat_75 76 rfl (by decide) ?_
            refine q_iadd (v := nI (at0 + 1)) C dX0_sortInOneBeat_76 77 rfl (q_nadd (by omega)) ?_
            refine q_bipush (v := nI 12) C dX0_sortInOneBeat_77 79 rfl (by decide) ?_
            refine q_icmp_ge C dX0_sortInOneBeat_79 82 91 rfl (by decide) (nI_leI (by omega) (by omega)) (fun h79 => ?_) (fun h79 => ?_)
            · refine q_iconst (v := nI 0) C dX0_sortInOneBeat_91 92 rfl (by decide) ?_
              refine q_put (k := 0) (j := 0) (f := 2) C hinX0 tyX0 tyX0_ok nmX0 f18 (fun _ h => h) (by decide) rfl rfl (tyX0_ok 2 (by decide)) rfl rfl dX0_sortInOneBeat_92 95 rfl rfl rfl (Nat.le_of_ble_eq_true rfl) [[(h0, .inr (0, [.ref hs, .ref hh, .int (nI 0)])), (hs, .inl (cI, 240, .inl fs)), (hh, .inl (cI, 12, .inl fh))]] rfl ?_
              refine q_iconst (v := nI 0) C dX0_sortInOneBeat_95 96 rfl (by decide) ?_
              exact q_zret C B (by decide) dX0_sortInOneBeat_96 rfl rfl (fun t0 ht0 => ⟨by rw [hmv]; rfl, _, by rw [k_nb, k_na, if_neg (by simp [hmv]), if_neg (by simp [hmv])]; (first | rw [if_pos (by omega)] | rw [if_neg (by omega)]); exact ⟨by omega, hok, hs, hh, _, _, hrel, rfl⟩, rfl⟩)
            · refine q_aload_n C dX0_sortInOneBeat_82 83 2 rfl rfl ?_
              refine q_get (k := 0) (j := 0) (f := 2) C hinX0 f18 (fun _ h => h) (by decide) rfl dX0_sortInOneBeat_83 86 rfl rfl rfl rfl ?_
              refine q_iconst (v := nI 1) C dX0_sortInOneBeat_86 87 rfl (by decide) ?_
              refine q_iadd (v := nI (at0 + 1)) C dX0_sortInOneBeat_87 88 rfl (q_nadd (by omega)) ?_
              refine q_goto C dX0_sortInOneBeat_88 92 (by decide) ?_
              refine q_put (k := 0) (j := 0) (f := 2) C hinX0 tyX0 tyX0_ok nmX0 f18 (fun _ h => h) (by decide) rfl rfl (tyX0_ok 2 (by decide)) rfl rfl dX0_sortInOneBeat_92 95 rfl rfl rfl (Nat.le_of_ble_eq_true rfl) [[(h0, .inr (0, [.ref hs, .ref hh, .int (nI (at0 + 1))])), (hs, .inl (cI, 240, .inl fs)), (hh, .inl (cI, 12, .inl fh))]] rfl ?_
              refine q_iconst (v := nI 0) C dX0_sortInOneBeat_95 96 rfl (by decide) ?_
              exact q_zret C B (by decide) dX0_sortInOneBeat_96 rfl rfl (fun t0 ht0 => ⟨by rw [hmv]; rfl, _, by rw [k_nb, k_na, if_neg (by simp [hmv]), if_neg (by simp [hmv])]; (first | rw [if_pos (by omega)] | rw [if_neg (by omega)]); exact ⟨by omega, hok, hs, hh, _, _, hrel, rfl⟩, rfl⟩)
          · refine q_aload_n C dX0_sortInOneBeat_54 55 2 rfl rfl ?_
            refine q_aload_n C dX0_sortInOneBeat_55 56 2 rfl rfl ?_
            refine q_get (k := 0) (j := 0) (f := 2) C hinX0 f18 (fun _ h => h) (by decide) rfl dX0_sortInOneBeat_56 59 rfl rfl rfl rfl ?_
            refine q_callV (k := 0) (ci := 0) (n := 1) (rest := []) (Rr := []) C rfl (k_isB_recv hB) rfl (c_X0_dropUpmost l hZ hI h0 bx at0 ([(h0, .inr (0, [.ref hs, .ref hh, .int (nI at0)])), (hs, .inl (cI, 240, .inl fs)), (hh, .inl (cI, 12, .inl fh))]) hB at0 (by omega)) gX0_sortInOneBeat_X0_dropUpmost rfl rfl rfl (by decide +kernel) B.1 ⟨Nat.le_of_ble_eq_true rfl, Nat.le_of_ble_eq_true rfl⟩ rfl rfl (Nat.le_of_ble_eq_true rfl) dX0_sortInOneBeat_59 ⟨Nat.le_of_ble_eq_true rfl, Nat.le_of_ble_eq_true rfl⟩ [0] [] (by decide : ([0] ++ ([] : List Nat)).Perm (List.range 1)) rfl rfl 62 rfl (fun v0 R0 t0 ht0 hp0 => ?_)
            obtain ⟨rfl, w_59, hw_59, rfl⟩ := hp0
            refine q_eqs (st' := []) rfl ?_
            refine q_eqR (Rs' := [w_59]) rfl ?_
            refine q_aload_n C dX0_sortInOneBeat_62 63 2 rfl rfl ?_
            refine q_iload_n C dX0_sortInOneBeat_63 64 1 rfl rfl ?_
            refine q_iload_n C dX0_sortInOneBeat_64 65 1 rfl rfl ?_
            refine q_callV (k := 0) (ci := 0) (n := 2) (rest := []) (Rr := []) C rfl (k_isB_recv hw_59) rfl (c_X0_put l hZ hI h0 (k_drop bx at0) at0 w_59 hw_59 x x (by omega) (by rw [k_drop_n (by omega)]; omega) (by omega)) gX0_sortInOneBeat_X0_put rfl rfl rfl (by decide +kernel) B.1 ⟨Nat.le_of_ble_eq_true rfl, Nat.le_of_ble_eq_true rfl⟩ rfl rfl (Nat.le_of_ble_eq_true rfl) dX0_sortInOneBeat_65 ⟨Nat.le_of_ble_eq_true rfl, Nat.le_of_ble_eq_true rfl⟩ [0] [] (by decide : ([0] ++ ([] : List Nat)).Perm (List.range 1)) rfl rfl 68 rfl (fun v0 R0 t0 ht0 hp0 => ?_)
            obtain ⟨rfl, w_65, hw_65, rfl⟩ := hp0
            refine q_eqs (st' := []) rfl ?_
            refine q_eqR (Rs' := [w_65]) rfl ?_
            refine q_iconst (v := nI 1) C dX0_sortInOneBeat_68 69 rfl (by decide) ?_
            exact q_zret C B (by decide) dX0_sortInOneBeat_69 rfl rfl (fun t0 ht0 => ⟨by rw [show k_mv bx at0 hd = true by unfold k_mv; rw [← ex]; exact decide_eq_true ⟨he, by omega, h38, h43, by omega⟩]; rfl, _, by rw [k_nb, k_na, if_pos (by unfold k_mv; rw [← ex]; exact decide_eq_true ⟨he, by omega, h38, h43, by omega⟩), if_pos (by unfold k_mv; rw [← ex]; exact decide_eq_true ⟨he, by omega, h38, h43, by omega⟩), ← ex]; exact hw_65, rfl⟩)

set_option maxHeartbeats 4000000 in
set_option maxRecDepth 100000 in
theorem c_X0_exchangeUpmost (l : Launch) {D : va_G} {tys : List (ClassId × FieldType)} {Z : (Nat → Prop) → State → Heap → Prop} (hZ : q_St Z) {cI : ClassId} (hI : tys[0]? = some (cI, .int)) (h0 : Nat) (bx : k_Bx) (at0 : Nat) (w : va_W) (h : k_isB cI h0 bx at0 w) (b : Nat) (o : Nat) (hb : b < 12) (ho : o < 12) : q_Ct l D tys Z yX0_exchangeUpmost wsX0_exchangeUpmost ({ frames := 2, cells := 0, slots := 0, locals := 72 } : Room) 0 0 [.ref h0, .int (nI b), .int (nI o)] [w] (fun v0 R0 _ => v0 = none ∧ ∃ w', k_isB cI h0 (k_ex bx b o) at0 w' ∧ R0 = [w']) := by
  have hcI := hI
  refine q_ct (cc := cX0_exchangeUpmost) (maxL := 5) (ret := none) (own := RX0) (by decide) rfl hZ (Nat.le_of_ble_eq_true rfl) rfl ?_
  intro p9 e9 R s9 m9 args below meth c9 A Q C B
  have hts := C.2.2.2.2.1
  refine q_eqL (L' := [(0, .ref h0), (1, .int (nI b)), (2, .int (nI o))]) rfl ?_
  have hok := h.2.1
  have hlo := (hok o ho).1
  have hlb := (hok b hb).1
  refine q_iload_n C dX0_exchangeUpmost_0 1 1 rfl rfl ?_
  refine q_iload_n C dX0_exchangeUpmost_1 2 2 rfl rfl ?_
  refine q_icmp_ne C dX0_exchangeUpmost_2 5 6 rfl (by decide) (nI_eq (by omega) (by omega)) (fun h2 => ?_) (fun h2 => ?_)
  · refine q_aload_n C dX0_exchangeUpmost_6 7 0 rfl rfl ?_
    refine q_iload_n C dX0_exchangeUpmost_7 8 1 rfl rfl ?_
    refine q_iconst (v := nI 0) C dX0_exchangeUpmost_8 9 rfl (by decide) ?_
    refine q_callV (k := 0) (ci := 0) (n := 2) (rest := []) (Rr := []) C rfl (k_isB_recv h) rfl (c_X0_typeAt l hZ hI h0 bx at0 w h b 0 (by omega) (by omega)) gX0_exchangeUpmost_X0_typeAt rfl rfl rfl (by decide +kernel) B.1 ⟨Nat.le_of_ble_eq_true rfl, Nat.le_of_ble_eq_true rfl⟩ rfl rfl (Nat.le_of_ble_eq_true rfl) dX0_exchangeUpmost_9 ⟨Nat.le_of_ble_eq_true rfl, Nat.le_of_ble_eq_true rfl⟩ [0] [] (by decide : ([0] ++ ([] : List Nat)).Perm (List.range 1)) rfl rfl 12 rfl (fun v0 R0 t0 ht0 hp0 => ?_)
    obtain ⟨rfl, rfl⟩ := hp0
    refine q_eqs (st' := [.int (k_top bx b 0)]) rfl ?_
    refine q_eqR (Rs' := [w]) rfl ?_
    refine q_topi (fun r9 hr9 => ?_)
    rcases Nat.eq_zero_or_pos (bx b).length with he1 | he1
    · rw [k_top_none (by omega)] at hr9; subst hr9
      refine q_istore_n C dX0_exchangeUpmost_12 13 rfl [(3, .int (-1)), (0, .ref h0), (1, .int (nI b)), (2, .int (nI o))] (by decide) rfl ?_
      refine q_aload_n C dX0_exchangeUpmost_13 14 1 rfl rfl ?_
      refine q_iload_n C dX0_exchangeUpmost_14 15 3 rfl rfl ?_
      refine q_iconst (v := nI 0) C dX0_exchangeUpmost_15 16 rfl (by decide) ?_
      refine q_callV (k := 0) (ci := 0) (n := 2) (rest := []) (Rr := []) C rfl (k_isB_recv h) rfl (c_X0_typeAt l hZ hI h0 bx at0 w h o 0 (by omega) (by omega)) gX0_exchangeUpmost_X0_typeAt rfl rfl rfl (by decide +kernel) B.1 ⟨Nat.le_of_ble_eq_true rfl, Nat.le_of_ble_eq_true rfl⟩ rfl rfl (Nat.le_of_ble_eq_true rfl) dX0_exchangeUpmost_16 ⟨Nat.le_of_ble_eq_true rfl, Nat.le_of_ble_eq_true rfl⟩ [0] [] (by decide : ([0] ++ ([] : List Nat)).Perm (List.range 1)) rfl rfl 19 rfl (fun v0 R0 t0 ht0 hp0 => ?_)
      obtain ⟨rfl, rfl⟩ := hp0
      refine q_eqs (st' := [.int (k_top bx o 0)]) rfl ?_
      refine q_eqR (Rs' := [w]) rfl ?_
      refine q_topi (fun r16 hr16 => ?_)
      rcases Nat.eq_zero_or_pos (bx o).length with he2 | he2
      · rw [k_top_none (by omega)] at hr16; subst hr16
        refine q_istore C dX0_exchangeUpmost_19 21 rfl [(4, .int (-1)), (3, .int (-1)), (0, .ref h0), (1, .int (nI b)), (2, .int (nI o))] (by decide) rfl ?_
        refine q_aload_n C dX0_exchangeUpmost_21 22 2 rfl rfl ?_
        refine q_iload_n C dX0_exchangeUpmost_22 23 3 rfl rfl ?_
        refine q_callV (k := 0) (ci := 0) (n := 1) (rest := []) (Rr := []) C rfl (k_isB_recv h) rfl (c_X0_dropUpmost l hZ hI h0 bx at0 w h b (by omega)) gX0_exchangeUpmost_X0_dropUpmost rfl rfl rfl (by decide +kernel) B.1 ⟨Nat.le_of_ble_eq_true rfl, Nat.le_of_ble_eq_true rfl⟩ rfl rfl (Nat.le_of_ble_eq_true rfl) dX0_exchangeUpmost_23 ⟨Nat.le_of_ble_eq_true rfl, Nat.le_of_ble_eq_true rfl⟩ [0] [] (by decide : ([0] ++ ([] : List Nat)).Perm (List.range 1)) rfl rfl 26 rfl (fun v0 R0 t0 ht0 hp0 => ?_)
        obtain ⟨rfl, w_23, hw_23, rfl⟩ := hp0
        refine q_eqs (st' := []) rfl ?_
        refine q_eqR (Rs' := [w_23]) rfl ?_
        refine q_aload_n C dX0_exchangeUpmost_26 27 2 rfl rfl ?_
        refine q_iload_n C dX0_exchangeUpmost_27 28 4 rfl rfl ?_
        refine q_callV (k := 0) (ci := 0) (n := 1) (rest := []) (Rr := []) C rfl (k_isB_recv hw_23) rfl (c_X0_dropUpmost l hZ hI h0 (k_drop bx b) at0 w_23 hw_23 o (by omega)) gX0_exchangeUpmost_X0_dropUpmost rfl rfl rfl (by decide +kernel) B.1 ⟨Nat.le_of_ble_eq_true rfl, Nat.le_of_ble_eq_true rfl⟩ rfl rfl (Nat.le_of_ble_eq_true rfl) dX0_exchangeUpmost_28 ⟨Nat.le_of_ble_eq_true rfl, Nat.le_of_ble_eq_true rfl⟩ [0] [] (by decide : ([0] ++ ([] : List Nat)).Perm (List.range 1)) rfl rfl 31 rfl (fun v0 R0 t0 ht0 hp0 => ?_)
        obtain ⟨rfl, w_28, hw_28, rfl⟩ := hp0
        refine q_eqs (st' := []) rfl ?_
        refine q_eqR (Rs' := [w_28]) rfl ?_
        refine q_iload_n C dX0_exchangeUpmost_31 32 1 rfl rfl ?_
        refine q_iconst (v := -1) C dX0_exchangeUpmost_32 33 rfl (by decide) ?_
        refine q_icmp_eq (P := True) C dX0_exchangeUpmost_33 36 42 rfl (by decide) ⟨fun _ => trivial, fun _ => rfl⟩ (fun h33 => ?_) (fun h33 => False.elim (by first | omega | simp_all))
        refine q_iload C dX0_exchangeUpmost_42 44 0 rfl rfl ?_
        refine q_iconst (v := -1) C dX0_exchangeUpmost_44 45 rfl (by decide) ?_
        refine q_icmp_eq (P := True) C dX0_exchangeUpmost_45 48 55 rfl (by decide) ⟨fun _ => trivial, fun _ => rfl⟩ (fun h45 => ?_) (fun h45 => False.elim (by first | omega | simp_all))
        exact q_vret C B dX0_exchangeUpmost_55 rfl rfl (fun t0 ht0 => ⟨rfl, _, by rw [k_ex, if_neg (by omega)]; rw [if_neg (by omega), k_e2]; rw [if_neg (by omega)]; exact hw_28, rfl⟩)
      · have hx2 : r16 = nI (k_x bx o) := hr16.trans (k_top_some he2)
        have hxl2 := k_x_lt hok (by omega) he2
        obtain ⟨y, ex2⟩ : ∃ x, x = k_x bx o := ⟨_, rfl⟩
        rw [← ex2] at hx2 hxl2
        subst hx2
        refine q_istore C dX0_exchangeUpmost_19 21 rfl [(4, .int (nI y)), (3, .int (-1)), (0, .ref h0), (1, .int (nI b)), (2, .int (nI o))] (by decide) rfl ?_
        refine q_aload_n C dX0_exchangeUpmost_21 22 2 rfl rfl ?_
        refine q_iload_n C dX0_exchangeUpmost_22 23 3 rfl rfl ?_
        refine q_callV (k := 0) (ci := 0) (n := 1) (rest := []) (Rr := []) C rfl (k_isB_recv h) rfl (c_X0_dropUpmost l hZ hI h0 bx at0 w h b (by omega)) gX0_exchangeUpmost_X0_dropUpmost rfl rfl rfl (by decide +kernel) B.1 ⟨Nat.le_of_ble_eq_true rfl, Nat.le_of_ble_eq_true rfl⟩ rfl rfl (Nat.le_of_ble_eq_true rfl) dX0_exchangeUpmost_23 ⟨Nat.le_of_ble_eq_true rfl, Nat.le_of_ble_eq_true rfl⟩ [0] [] (by decide : ([0] ++ ([] : List Nat)).Perm (List.range 1)) rfl rfl 26 rfl (fun v0 R0 t0 ht0 hp0 => ?_)
        obtain ⟨rfl, w_23, hw_23, rfl⟩ := hp0
        refine q_eqs (st' := []) rfl ?_
        refine q_eqR (Rs' := [w_23]) rfl ?_
        refine q_aload_n C dX0_exchangeUpmost_26 27 2 rfl rfl ?_
        refine q_iload_n C dX0_exchangeUpmost_27 28 4 rfl rfl ?_
        refine q_callV (k := 0) (ci := 0) (n := 1) (rest := []) (Rr := []) C rfl (k_isB_recv hw_23) rfl (c_X0_dropUpmost l hZ hI h0 (k_drop bx b) at0 w_23 hw_23 o (by omega)) gX0_exchangeUpmost_X0_dropUpmost rfl rfl rfl (by decide +kernel) B.1 ⟨Nat.le_of_ble_eq_true rfl, Nat.le_of_ble_eq_true rfl⟩ rfl rfl (Nat.le_of_ble_eq_true rfl) dX0_exchangeUpmost_28 ⟨Nat.le_of_ble_eq_true rfl, Nat.le_of_ble_eq_true rfl⟩ [0] [] (by decide : ([0] ++ ([] : List Nat)).Perm (List.range 1)) rfl rfl 31 rfl (fun v0 R0 t0 ht0 hp0 => ?_)
        obtain ⟨rfl, w_28, hw_28, rfl⟩ := hp0
        refine q_eqs (st' := []) rfl ?_
        refine q_eqR (Rs' := [w_28]) rfl ?_
        refine q_iload_n C dX0_exchangeUpmost_31 32 1 rfl rfl ?_
        refine q_iconst (v := -1) C dX0_exchangeUpmost_32 33 rfl (by decide) ?_
        refine q_icmp_eq (P := True) C dX0_exchangeUpmost_33 36 42 rfl (by decide) ⟨fun _ => trivial, fun _ => rfl⟩ (fun h33 => ?_) (fun h33 => False.elim (by first | omega | simp_all))
        refine q_iload C dX0_exchangeUpmost_42 44 0 rfl rfl ?_
        refine q_iconst (v := -1) C dX0_exchangeUpmost_44 45 rfl (by decide) ?_
        refine q_icmp_eq (P := False) C dX0_exchangeUpmost_45 48 55 rfl (by decide) (q_m1 (by omega)) (fun h45 => False.elim (by first | omega | simp_all)) (fun h45 => ?_)
        refine q_aload_n C dX0_exchangeUpmost_48 49 2 rfl rfl ?_
        refine q_iload_n C dX0_exchangeUpmost_49 50 3 rfl rfl ?_
        refine q_iload C dX0_exchangeUpmost_50 52 0 rfl rfl ?_
        refine q_callV (k := 0) (ci := 0) (n := 2) (rest := []) (Rr := []) C rfl (k_isB_recv hw_28) rfl (c_X0_put l hZ hI h0 (k_drop (k_drop bx b) o) at0 w_28 hw_28 b y (by omega) (by first | (rw [k_put_n (by omega), k_drop_n (by omega), k_drop_s, List.length_dropLast]; omega) | (rw [k_drop_n (by omega), k_drop_s, List.length_dropLast]; omega)) (by omega)) gX0_exchangeUpmost_X0_put rfl rfl rfl (by decide +kernel) B.1 ⟨Nat.le_of_ble_eq_true rfl, Nat.le_of_ble_eq_true rfl⟩ rfl rfl (Nat.le_of_ble_eq_true rfl) dX0_exchangeUpmost_52 ⟨Nat.le_of_ble_eq_true rfl, Nat.le_of_ble_eq_true rfl⟩ [0] [] (by decide : ([0] ++ ([] : List Nat)).Perm (List.range 1)) rfl rfl 55 rfl (fun v0 R0 t0 ht0 hp0 => ?_)
        obtain ⟨rfl, w_52, hw_52, rfl⟩ := hp0
        refine q_eqs (st' := []) rfl ?_
        refine q_eqR (Rs' := [w_52]) rfl ?_
        exact q_vret C B dX0_exchangeUpmost_55 rfl rfl (fun t0 ht0 => ⟨rfl, _, by rw [k_ex, if_neg (by omega)]; rw [if_pos he2, k_e2]; rw [if_neg (by omega)]; rw [← ex2]; exact hw_52, rfl⟩)
    · have hx1 : r9 = nI (k_x bx b) := hr9.trans (k_top_some he1)
      have hxl1 := k_x_lt hok (by omega) he1
      obtain ⟨x, ex1⟩ : ∃ x, x = k_x bx b := ⟨_, rfl⟩
      rw [← ex1] at hx1 hxl1
      subst hx1
      refine q_istore_n C dX0_exchangeUpmost_12 13 rfl [(3, .int (nI x)), (0, .ref h0), (1, .int (nI b)), (2, .int (nI o))] (by decide) rfl ?_
      refine q_aload_n C dX0_exchangeUpmost_13 14 1 rfl rfl ?_
      refine q_iload_n C dX0_exchangeUpmost_14 15 3 rfl rfl ?_
      refine q_iconst (v := nI 0) C dX0_exchangeUpmost_15 16 rfl (by decide) ?_
      refine q_callV (k := 0) (ci := 0) (n := 2) (rest := []) (Rr := []) C rfl (k_isB_recv h) rfl (c_X0_typeAt l hZ hI h0 bx at0 w h o 0 (by omega) (by omega)) gX0_exchangeUpmost_X0_typeAt rfl rfl rfl (by decide +kernel) B.1 ⟨Nat.le_of_ble_eq_true rfl, Nat.le_of_ble_eq_true rfl⟩ rfl rfl (Nat.le_of_ble_eq_true rfl) dX0_exchangeUpmost_16 ⟨Nat.le_of_ble_eq_true rfl, Nat.le_of_ble_eq_true rfl⟩ [0] [] (by decide : ([0] ++ ([] : List Nat)).Perm (List.range 1)) rfl rfl 19 rfl (fun v0 R0 t0 ht0 hp0 => ?_)
      obtain ⟨rfl, rfl⟩ := hp0
      refine q_eqs (st' := [.int (k_top bx o 0)]) rfl ?_
      refine q_eqR (Rs' := [w]) rfl ?_
      refine q_topi (fun r16 hr16 => ?_)
      rcases Nat.eq_zero_or_pos (bx o).length with he2 | he2
      · rw [k_top_none (by omega)] at hr16; subst hr16
        refine q_istore C dX0_exchangeUpmost_19 21 rfl [(4, .int (-1)), (3, .int (nI x)), (0, .ref h0), (1, .int (nI b)), (2, .int (nI o))] (by decide) rfl ?_
        refine q_aload_n C dX0_exchangeUpmost_21 22 2 rfl rfl ?_
        refine q_iload_n C dX0_exchangeUpmost_22 23 3 rfl rfl ?_
        refine q_callV (k := 0) (ci := 0) (n := 1) (rest := []) (Rr := []) C rfl (k_isB_recv h) rfl (c_X0_dropUpmost l hZ hI h0 bx at0 w h b (by omega)) gX0_exchangeUpmost_X0_dropUpmost rfl rfl rfl (by decide +kernel) B.1 ⟨Nat.le_of_ble_eq_true rfl, Nat.le_of_ble_eq_true rfl⟩ rfl rfl (Nat.le_of_ble_eq_true rfl) dX0_exchangeUpmost_23 ⟨Nat.le_of_ble_eq_true rfl, Nat.le_of_ble_eq_true rfl⟩ [0] [] (by decide : ([0] ++ ([] : List Nat)).Perm (List.range 1)) rfl rfl 26 rfl (fun v0 R0 t0 ht0 hp0 => ?_)
        obtain ⟨rfl, w_23, hw_23, rfl⟩ := hp0
        refine q_eqs (st' := []) rfl ?_
        refine q_eqR (Rs' := [w_23]) rfl ?_
        refine q_aload_n C dX0_exchangeUpmost_26 27 2 rfl rfl ?_
        refine q_iload_n C dX0_exchangeUpmost_27 28 4 rfl rfl ?_
        refine q_callV (k := 0) (ci := 0) (n := 1) (rest := []) (Rr := []) C rfl (k_isB_recv hw_23) rfl (c_X0_dropUpmost l hZ hI h0 (k_drop bx b) at0 w_23 hw_23 o (by omega)) gX0_exchangeUpmost_X0_dropUpmost rfl rfl rfl (by decide +kernel) B.1 ⟨Nat.le_of_ble_eq_true rfl, Nat.le_of_ble_eq_true rfl⟩ rfl rfl (Nat.le_of_ble_eq_true rfl) dX0_exchangeUpmost_28 ⟨Nat.le_of_ble_eq_true rfl, Nat.le_of_ble_eq_true rfl⟩ [0] [] (by decide : ([0] ++ ([] : List Nat)).Perm (List.range 1)) rfl rfl 31 rfl (fun v0 R0 t0 ht0 hp0 => ?_)
        obtain ⟨rfl, w_28, hw_28, rfl⟩ := hp0
        refine q_eqs (st' := []) rfl ?_
        refine q_eqR (Rs' := [w_28]) rfl ?_
        refine q_iload_n C dX0_exchangeUpmost_31 32 1 rfl rfl ?_
        refine q_iconst (v := -1) C dX0_exchangeUpmost_32 33 rfl (by decide) ?_
        refine q_icmp_eq (P := False) C dX0_exchangeUpmost_33 36 42 rfl (by decide) (q_m1 (by omega)) (fun h33 => False.elim (by first | omega | simp_all)) (fun h33 => ?_)
        refine q_aload_n C dX0_exchangeUpmost_36 37 2 rfl rfl ?_
        refine q_iload_n C dX0_exchangeUpmost_37 38 4 rfl rfl ?_
        refine q_iload_n C dX0_exchangeUpmost_38 39 1 rfl rfl ?_
        refine q_callV (k := 0) (ci := 0) (n := 2) (rest := []) (Rr := []) C rfl (k_isB_recv hw_28) rfl (c_X0_put l hZ hI h0 (k_drop (k_drop bx b) o) at0 w_28 hw_28 o x (by omega) (by rw [k_drop_s, k_drop_n (by omega), List.length_dropLast]; omega) (by omega)) gX0_exchangeUpmost_X0_put rfl rfl rfl (by decide +kernel) B.1 ⟨Nat.le_of_ble_eq_true rfl, Nat.le_of_ble_eq_true rfl⟩ rfl rfl (Nat.le_of_ble_eq_true rfl) dX0_exchangeUpmost_39 ⟨Nat.le_of_ble_eq_true rfl, Nat.le_of_ble_eq_true rfl⟩ [0] [] (by decide : ([0] ++ ([] : List Nat)).Perm (List.range 1)) rfl rfl 42 rfl (fun v0 R0 t0 ht0 hp0 => ?_)
        obtain ⟨rfl, w_39, hw_39, rfl⟩ := hp0
        refine q_eqs (st' := []) rfl ?_
        refine q_eqR (Rs' := [w_39]) rfl ?_
        refine q_iload C dX0_exchangeUpmost_42 44 0 rfl rfl ?_
        refine q_iconst (v := -1) C dX0_exchangeUpmost_44 45 rfl (by decide) ?_
        refine q_icmp_eq (P := True) C dX0_exchangeUpmost_45 48 55 rfl (by decide) ⟨fun _ => trivial, fun _ => rfl⟩ (fun h45 => ?_) (fun h45 => False.elim (by first | omega | simp_all))
        exact q_vret C B dX0_exchangeUpmost_55 rfl rfl (fun t0 ht0 => ⟨rfl, _, by rw [k_ex, if_neg (by omega)]; rw [if_neg (by omega), k_e2]; rw [if_pos he1, ← ex1]; exact hw_39, rfl⟩)
      · have hx2 : r16 = nI (k_x bx o) := hr16.trans (k_top_some he2)
        have hxl2 := k_x_lt hok (by omega) he2
        obtain ⟨y, ex2⟩ : ∃ x, x = k_x bx o := ⟨_, rfl⟩
        rw [← ex2] at hx2 hxl2
        subst hx2
        refine q_istore C dX0_exchangeUpmost_19 21 rfl [(4, .int (nI y)), (3, .int (nI x)), (0, .ref h0), (1, .int (nI b)), (2, .int (nI o))] (by decide) rfl ?_
        refine q_aload_n C dX0_exchangeUpmost_21 22 2 rfl rfl ?_
        refine q_iload_n C dX0_exchangeUpmost_22 23 3 rfl rfl ?_
        refine q_callV (k := 0) (ci := 0) (n := 1) (rest := []) (Rr := []) C rfl (k_isB_recv h) rfl (c_X0_dropUpmost l hZ hI h0 bx at0 w h b (by omega)) gX0_exchangeUpmost_X0_dropUpmost rfl rfl rfl (by decide +kernel) B.1 ⟨Nat.le_of_ble_eq_true rfl, Nat.le_of_ble_eq_true rfl⟩ rfl rfl (Nat.le_of_ble_eq_true rfl) dX0_exchangeUpmost_23 ⟨Nat.le_of_ble_eq_true rfl, Nat.le_of_ble_eq_true rfl⟩ [0] [] (by decide : ([0] ++ ([] : List Nat)).Perm (List.range 1)) rfl rfl 26 rfl (fun v0 R0 t0 ht0 hp0 => ?_)
        obtain ⟨rfl, w_23, hw_23, rfl⟩ := hp0
        refine q_eqs (st' := []) rfl ?_
        refine q_eqR (Rs' := [w_23]) rfl ?_
        refine q_aload_n C dX0_exchangeUpmost_26 27 2 rfl rfl ?_
        refine q_iload_n C dX0_exchangeUpmost_27 28 4 rfl rfl ?_
        refine q_callV (k := 0) (ci := 0) (n := 1) (rest := []) (Rr := []) C rfl (k_isB_recv hw_23) rfl (c_X0_dropUpmost l hZ hI h0 (k_drop bx b) at0 w_23 hw_23 o (by omega)) gX0_exchangeUpmost_X0_dropUpmost rfl rfl rfl (by decide +kernel) B.1 ⟨Nat.le_of_ble_eq_true rfl, Nat.le_of_ble_eq_true rfl⟩ rfl rfl (Nat.le_of_ble_eq_true rfl) dX0_exchangeUpmost_28 ⟨Nat.le_of_ble_eq_true rfl, Nat.le_of_ble_eq_true rfl⟩ [0] [] (by decide : ([0] ++ ([] : List Nat)).Perm (List.range 1)) rfl rfl 31 rfl (fun v0 R0 t0 ht0 hp0 => ?_)
        obtain ⟨rfl, w_28, hw_28, rfl⟩ := hp0
        refine q_eqs (st' := []) rfl ?_
        refine q_eqR (Rs' := [w_28]) rfl ?_
        refine q_iload_n C dX0_exchangeUpmost_31 32 1 rfl rfl ?_
        refine q_iconst (v := -1) C dX0_exchangeUpmost_32 33 rfl (by decide) ?_
        refine q_icmp_eq (P := False) C dX0_exchangeUpmost_33 36 42 rfl (by decide) (q_m1 (by omega)) (fun h33 => False.elim (by first | omega | simp_all)) (fun h33 => ?_)
        refine q_aload_n C dX0_exchangeUpmost_36 37 2 rfl rfl ?_
        refine q_iload_n C dX0_exchangeUpmost_37 38 4 rfl rfl ?_
        refine q_iload_n C dX0_exchangeUpmost_38 39 1 rfl rfl ?_
        refine q_callV (k := 0) (ci := 0) (n := 2) (rest := []) (Rr := []) C rfl (k_isB_recv hw_28) rfl (c_X0_put l hZ hI h0 (k_drop (k_drop bx b) o) at0 w_28 hw_28 o x (by omega) (by rw [k_drop_s, k_drop_n (by omega), List.length_dropLast]; omega) (by omega)) gX0_exchangeUpmost_X0_put rfl rfl rfl (by decide +kernel) B.1 ⟨Nat.le_of_ble_eq_true rfl, Nat.le_of_ble_eq_true rfl⟩ rfl rfl (Nat.le_of_ble_eq_true rfl) dX0_exchangeUpmost_39 ⟨Nat.le_of_ble_eq_true rfl, Nat.le_of_ble_eq_true rfl⟩ [0] [] (by decide : ([0] ++ ([] : List Nat)).Perm (List.range 1)) rfl rfl 42 rfl (fun v0 R0 t0 ht0 hp0 => ?_)
        obtain ⟨rfl, w_39, hw_39, rfl⟩ := hp0
        refine q_eqs (st' := []) rfl ?_
        refine q_eqR (Rs' := [w_39]) rfl ?_
        refine q_iload C dX0_exchangeUpmost_42 44 0 rfl rfl ?_
        refine q_iconst (v := -1) C dX0_exchangeUpmost_44 45 rfl (by decide) ?_
        refine q_icmp_eq (P := False) C dX0_exchangeUpmost_45 48 55 rfl (by decide) (q_m1 (by omega)) (fun h45 => False.elim (by first | omega | simp_all)) (fun h45 => ?_)
        refine q_aload_n C dX0_exchangeUpmost_48 49 2 rfl rfl ?_
        refine q_iload_n C dX0_exchangeUpmost_49 50 3 rfl rfl ?_
        refine q_iload C dX0_exchangeUpmost_50 52 0 rfl rfl ?_
        refine q_callV (k := 0) (ci := 0) (n := 2) (rest := []) (Rr := []) C rfl (k_isB_recv hw_39) rfl (c_X0_put l hZ hI h0 (k_put (k_drop (k_drop bx b) o) o x) at0 w_39 hw_39 b y (by omega) (by first | (rw [k_put_n (by omega), k_drop_n (by omega), k_drop_s, List.length_dropLast]; omega) | (rw [k_drop_n (by omega), k_drop_s, List.length_dropLast]; omega)) (by omega)) gX0_exchangeUpmost_X0_put rfl rfl rfl (by decide +kernel) B.1 ⟨Nat.le_of_ble_eq_true rfl, Nat.le_of_ble_eq_true rfl⟩ rfl rfl (Nat.le_of_ble_eq_true rfl) dX0_exchangeUpmost_52 ⟨Nat.le_of_ble_eq_true rfl, Nat.le_of_ble_eq_true rfl⟩ [0] [] (by decide : ([0] ++ ([] : List Nat)).Perm (List.range 1)) rfl rfl 55 rfl (fun v0 R0 t0 ht0 hp0 => ?_)
        obtain ⟨rfl, w_52, hw_52, rfl⟩ := hp0
        refine q_eqs (st' := []) rfl ?_
        refine q_eqR (Rs' := [w_52]) rfl ?_
        exact q_vret C B dX0_exchangeUpmost_55 rfl rfl (fun t0 ht0 => ⟨rfl, _, by rw [k_ex, if_neg (by omega)]; rw [if_pos he2, k_e2]; rw [if_pos he1, ← ex1]; rw [← ex2]; exact hw_52, rfl⟩)
  · exact q_vret C B dX0_exchangeUpmost_5 rfl rfl (fun t0 ht0 => ⟨rfl, _, by rw [k_ex, if_pos (by omega)]; exact h, rfl⟩)

set_option maxHeartbeats 4000000 in
set_option maxRecDepth 100000 in
theorem c_X0_sortAll (l : Launch) {D : va_G} {tys : List (ClassId × FieldType)} {Z : (Nat → Prop) → State → Heap → Prop} (hZ : q_St Z) {cI : ClassId} (hI : tys[0]? = some (cI, .int)) (h0 : Nat) (bx : k_Bx) (at0 : Nat) (w : va_W) (h : k_isB cI h0 bx at0 w) (hty : k_ty bx ≤ 72) : q_Ct l D tys Z yX0_sortAll wsX0_sortAll ({ frames := 3, cells := 0, slots := 0, locals := 102 } : Room) 0 0 [.ref h0] [w] (fun v0 R0 _ => v0 = some (.int (nI (k_lm bx at0 (-1) (k_T bx at0)))) ∧ ∃ w', k_isB cI h0 ((k_bs bx at0 (-1) (k_T bx at0)).1) ((k_bs bx at0 (-1) (k_T bx at0)).2) w' ∧ R0 = [w']) := by
  have hcI := hI
  refine q_ct (cc := cX0_sortAll) (maxL := 3) (ret := (some .int)) (own := RX0) (by decide) rfl hZ (Nat.le_of_ble_eq_true rfl) rfl ?_
  intro p9 e9 R s9 m9 args below meth c9 A Q C B
  have hts := C.2.2.2.2.1
  refine q_eqL (L' := [(0, .ref h0)]) rfl ?_
  have hok := h.2.1
  have hat := h.1
  refine q_iconst (v := nI 0) C dX0_sortAll_0 1 rfl (by decide) ?_
  refine q_istore_n C dX0_sortAll_1 2 rfl [(1, .int (nI 0)), (0, .ref h0)] (by decide) rfl ?_
  refine q_iconst (v := nI 1) C dX0_sortAll_2 3 rfl (by decide) ?_
  refine q_istore_n C dX0_sortAll_3 4 rfl [(2, .int (nI 1)), (1, .int (nI 0)), (0, .ref h0)] (by decide) rfl ?_
  have lp : ∀ (kk : Nat) (t : Nat) (n : Nat) (w1 : va_W), 877 - t < kk → ∀ (ht : t ≤ 876), ∀ (hn : n = k_lm bx at0 (-1) t), ∀ (hu : ∀ u, u < t → u - k_lm bx at0 (-1) u < 12), ∀ (hw1 : k_isB cI h0 (k_bs bx at0 (-1) t).1 (k_bs bx at0 (-1) t).2 w1), q_V p9 l e9 R s9 m9 args below meth c9 D A 3 Q 0 0 4 [(2, .int (nI (t + 1))), (1, .int (nI n)), (0, .ref h0)] [] [w1] := by
    intro kk
    induction kk with
    | zero => intro t n w1 hkk; exact absurd hkk (Nat.not_lt_zero _)
    | succ kk ih_lp =>
      intro t n w1 hkk ht hn hu hw1
      have hle := k_lm_le bx at0 (-1) t
      rw [← hn] at hle
      refine q_iload_n C dX0_sortAll_4 5 0 rfl rfl ?_
      refine q_sipush (v := nI 876) C dX0_sortAll_5 8 rfl (by decide) ?_
      refine q_icmp_gt C dX0_sortAll_8 11 35 rfl (by decide) (nI_ltI (by omega) (by omega)) (fun h8 => ?_) (fun h8 => ?_)
      · refine q_iload_n C dX0_sortAll_35 36 1 rfl rfl ?_
        have hT : k_T bx at0 = t := k_T_eq (by omega) (by rw [← hn]; exact (Nat.lt_or_ge (t - n) 12).elim (fun q => by have := k_lm_end hok hat hty t hu (by rw [← hn]; exact q); omega) id) hu
        exact q_iret C B dX0_sortAll_36 rfl rfl (fun t0 ht0 => ⟨by rw [hT, ← hn], _, by rw [hT]; exact hw1, rfl⟩)
      · refine q_iload_n C dX0_sortAll_11 12 0 rfl rfl ?_
        refine q_iload_n C dX0_sortAll_12 13 1 rfl rfl ?_
        refine q_isub (v := nI (t + 1 - n)) C dX0_sortAll_13 14 rfl (q_nsub (by omega) (by omega)) ?_
        refine q_bipush (v := nI 12) C dX0_sortAll_14 16 rfl (by decide) ?_
        refine q_icmp_gt C dX0_sortAll_16 19 35 rfl (by decide) (nI_ltI (by omega) (by omega)) (fun h16 => ?_) (fun h16 => ?_)
        · refine q_iload_n C dX0_sortAll_35 36 1 rfl rfl ?_
          have hT : k_T bx at0 = t := k_T_eq (by omega) (by rw [← hn]; omega) hu
          exact q_iret C B dX0_sortAll_36 rfl rfl (fun t0 ht0 => ⟨by rw [hT, ← hn], _, by rw [hT]; exact hw1, rfl⟩)
        · refine q_aload_n C dX0_sortAll_19 20 2 rfl rfl ?_
          refine q_iconst (v := -1) C dX0_sortAll_20 21 rfl (by decide) ?_
          refine q_callV (k := 0) (ci := 0) (n := 1) (rest := []) (Rr := []) C rfl (k_isB_recv hw1) rfl (c_X0_sortInOneBeat l hZ hI h0 ((k_bs bx at0 (-1) t).1) ((k_bs bx at0 (-1) t).2) w1 hw1 (-1)) gX0_sortAll_X0_sortInOneBeat rfl rfl rfl (by decide +kernel) B.1 ⟨Nat.le_of_ble_eq_true rfl, Nat.le_of_ble_eq_true rfl⟩ rfl rfl (Nat.le_of_ble_eq_true rfl) dX0_sortAll_21 ⟨Nat.le_of_ble_eq_true rfl, Nat.le_of_ble_eq_true rfl⟩ [0] [] (by decide : ([0] ++ ([] : List Nat)).Perm (List.range 1)) rfl rfl 24 rfl (fun v0 R0 t0 ht0 hp0 => ?_)
          obtain ⟨rfl, w_21, hw_21, rfl⟩ := hp0
          refine q_eqs (st' := [.int (q_b (k_mv ((k_bs bx at0 (-1) t).1) ((k_bs bx at0 (-1) t).2) (-1)))]) rfl ?_
          refine q_eqR (Rs' := [w_21]) rfl ?_
          refine q_if_eq (P := k_mv ((k_bs bx at0 (-1) t).1) ((k_bs bx at0 (-1) t).2) (-1) = false) C dX0_sortAll_24 27 29 rfl (by decide) q_b0 (fun h24 => ?_) (fun h24 => ?_)
          · refine q_iinc (v := nI (t + 2)) C dX0_sortAll_29 32 0 rfl rfl (q_ninc1 (by omega)) [(2, .int (nI (t + 2))), (1, .int (nI n)), (0, .ref h0)] (by decide) rfl ?_
            refine q_goto C dX0_sortAll_32 4 (by decide) ?_
            refine q_sub (L' := [(2, .int (nI (t + 2))), (1, .int (nI n)), (0, .ref h0)]) [0, 1, 2] rfl ?_
            exact ih_lp (t + 1) n w_21 (by omega) (by omega) (by rw [k_lm_f (by simpa [k_bm] using h24)]; exact hn) (fun u hq => (Decidable.em (u = t)).elim (fun e => by subst e; rw [← hn]; omega) (fun e => hu u (by omega))) hw_21
          · refine q_iload_n C dX0_sortAll_27 28 0 rfl rfl ?_
            refine q_istore_n C dX0_sortAll_28 29 rfl [(1, .int (nI (t + 1))), (2, .int (nI (t + 1))), (0, .ref h0)] (by decide) rfl ?_
            refine q_iinc (v := nI (t + 2)) C dX0_sortAll_29 32 1 rfl rfl (q_ninc1 (by omega)) [(2, .int (nI (t + 2))), (1, .int (nI (t + 1))), (0, .ref h0)] (by decide) rfl ?_
            refine q_goto C dX0_sortAll_32 4 (by decide) ?_
            refine q_sub (L' := [(2, .int (nI (t + 2))), (1, .int (nI (t + 1))), (0, .ref h0)]) [0, 1, 2] rfl ?_
            exact ih_lp (t + 1) (t + 1) w_21 (by omega) (by omega) (by rw [k_lm_t (by simpa [k_bm] using h24)]) (fun u hq => (Decidable.em (u = t)).elim (fun e => by subst e; rw [← hn]; omega) (fun e => hu u (by omega))) hw_21
  refine q_sub (L' := [(2, .int (nI 1)), (1, .int (nI 0)), (0, .ref h0)]) [0, 1, 2] rfl ?_
  exact lp _ 0 0 w (Nat.lt_succ_self _) (by omega) rfl (fun u hu => absurd hu (Nat.not_lt_zero u)) h

