set_option maxHeartbeats 400000 in
set_option maxRecDepth 100000 in
theorem c_J3_checkIndex_8e157 (l : Launch) {D : va_G} {tys : List (ClassId × FieldType)} {Z : (Nat → Prop) → State → Heap → Prop} (hZ : q_St Z) {cI : ClassId} (hI : tys[0]? = some (cI, .int)) (x : Nat) (n : Nat) (r : Nat) (hxn : x < n) (hn31 : n < 2147483648) : q_Ct l D tys Z yJ3_checkIndex_8e157 wsJ3_checkIndex_8e157 ({ frames := 1, cells := 0, slots := 0, locals := 42 } : Room) 0 0 [.int (nI x), .int (nI n), .ref r] [] (fun v0 R0 _ => v0 = some (.int (nI x)) ∧ R0 = []) := by
  have hcI := hI
  refine q_ct (cc := cJ3_checkIndex_8e157) (maxL := 3) (ret := (some .int)) (own := RJ3) (by decide) rfl hZ (Nat.le_of_ble_eq_true rfl) rfl ?_
  intro p9 e9 R s9 m9 args below meth c9 A Q C B
  have hts := C.2.2.2.2.1
  refine q_eqL (L' := [(0, .int (nI x)), (1, .int (nI n)), (2, .ref r)]) rfl ?_
  refine q_iload_n C dJ3_checkIndex_8e157_0 1 0 rfl rfl ?_
  refine q_if_lt C dJ3_checkIndex_8e157_1 4 9 rfl (by decide) (q_lt0 (by omega)) (fun h1 => False.elim (by first | omega | simp_all)) (fun h1 => ?_)
  refine q_iload_n C dJ3_checkIndex_8e157_4 5 0 rfl rfl ?_
  refine q_iload_n C dJ3_checkIndex_8e157_5 6 1 rfl rfl ?_
  refine q_icmp_lt C dJ3_checkIndex_8e157_6 9 16 rfl (by decide) (nI_ltI (by omega) (by omega)) (fun h6 => ?_) (fun h6 => False.elim (by first | omega | simp_all))
  refine q_iload_n C dJ3_checkIndex_8e157_16 17 0 rfl rfl ?_
  exact q_iret C B dJ3_checkIndex_8e157_17 rfl rfl (fun t0 ht0 => ⟨rfl, rfl⟩)

set_option maxHeartbeats 400000 in
set_option maxRecDepth 100000 in
theorem c_J3_checkIndex_8e157_n (l : Launch) {D : va_G} {tys : List (ClassId × FieldType)} {Z : (Nat → Prop) → State → Heap → Prop} (hZ : q_St Z) {cI : ClassId} (hI : tys[0]? = some (cI, .int)) (x : Nat) (n : Nat) (hxn : x < n) (hn31 : n < 2147483648) : q_Ct l D tys Z yJ3_checkIndex_8e157 wsJ3_checkIndex_8e157 ({ frames := 1, cells := 0, slots := 0, locals := 42 } : Room) 0 0 [.int (nI x), .int (nI n), .null] [] (fun v0 R0 _ => v0 = some (.int (nI x)) ∧ R0 = []) := by
  have hcI := hI
  refine q_ct (cc := cJ3_checkIndex_8e157) (maxL := 3) (ret := (some .int)) (own := RJ3) (by decide) rfl hZ (Nat.le_of_ble_eq_true rfl) rfl ?_
  intro p9 e9 R s9 m9 args below meth c9 A Q C B
  have hts := C.2.2.2.2.1
  refine q_eqL (L' := [(0, .int (nI x)), (1, .int (nI n)), (2, .null)]) rfl ?_
  refine q_iload_n C dJ3_checkIndex_8e157_0 1 0 rfl rfl ?_
  refine q_if_lt C dJ3_checkIndex_8e157_1 4 9 rfl (by decide) (q_lt0 (by omega)) (fun h1 => False.elim (by first | omega | simp_all)) (fun h1 => ?_)
  refine q_iload_n C dJ3_checkIndex_8e157_4 5 0 rfl rfl ?_
  refine q_iload_n C dJ3_checkIndex_8e157_5 6 1 rfl rfl ?_
  refine q_icmp_lt C dJ3_checkIndex_8e157_6 9 16 rfl (by decide) (nI_ltI (by omega) (by omega)) (fun h6 => ?_) (fun h6 => False.elim (by first | omega | simp_all))
  refine q_iload_n C dJ3_checkIndex_8e157_16 17 0 rfl rfl ?_
  exact q_iret C B dJ3_checkIndex_8e157_17 rfl rfl (fun t0 ht0 => ⟨rfl, rfl⟩)

set_option maxHeartbeats 400000 in
set_option maxRecDepth 100000 in
theorem c_J0_checkIndex_df160 (l : Launch) {D : va_G} {tys : List (ClassId × FieldType)} {Z : (Nat → Prop) → State → Heap → Prop} (hZ : q_St Z) {cI : ClassId} (hI : tys[0]? = some (cI, .int)) {ad aw av : Nat → Nat} {tK : Nat} (hKs : q_Ks Z ad aw av tK) (x : Nat) (n : Nat) (hxn : x < n) (hn31 : n < 2147483648) : q_Ct l D tys Z yJ0_checkIndex_df160 wsJ0_checkIndex_df160 ({ frames := 2, cells := 0, slots := 0, locals := 72 } : Room) 0 0 [.int (nI x), .int (nI n)] [] (fun v0 R0 _ => v0 = none ∧ R0 = []) := by
  have hcI := hI
  refine q_ct (cc := cJ0_checkIndex_df160) (maxL := 2) (ret := none) (own := RJ0) (by decide) rfl hZ (Nat.le_of_ble_eq_true rfl) rfl ?_
  intro p9 e9 R s9 m9 args below meth c9 A Q C B
  have hts := C.2.2.2.2.1
  have f1053 := hts (.fieldLink RJ0 1053 "jdk/internal/util/Preconditions" "SIOOBE_FORMATTER" "Ljava/util/function/BiFunction;") (by decide +kernel)
  refine q_eqL (L' := [(0, .int (nI x)), (1, .int (nI n))]) rfl ?_
  refine q_iload_n C dJ0_checkIndex_df160_0 1 0 rfl rfl ?_
  refine q_iload_n C dJ0_checkIndex_df160_1 2 1 rfl rfl ?_
  rcases q_kfm (q_kc hKs C) with hfm | ⟨tf, hfm⟩
  · refine q_gets (v := .null) C hfm f1053 (fun _ h => h) dJ0_checkIndex_df160_2 5 rfl ?_
    refine q_callSX (n := 3) (rest := []) (Rr := []) C (c_J3_checkIndex_8e157_n l hZ hI x n (by omega) (by omega)) gJ0_checkIndex_df160_J3_checkIndex_8e157 rfl rfl rfl (by decide +kernel) B.1 ⟨Nat.le_of_ble_eq_true rfl, Nat.le_of_ble_eq_true rfl⟩ rfl rfl (Nat.le_of_ble_eq_true rfl) dJ0_checkIndex_df160_5 ⟨(Nat.le_of_ble_eq_true rfl), (Nat.le_of_ble_eq_true rfl)⟩ [] [] (by decide : ([] ++ ([] : List Nat)).Perm (List.range 0)) rfl rfl 8 rfl (fun v0 R0 t0 ht0 hp0 => ?_)
    obtain ⟨rfl, rfl⟩ := hp0
    refine q_eqs (st' := [.int (nI x)]) rfl ?_
    refine q_eqR (Rs' := []) rfl ?_
    refine q_pop C dJ0_checkIndex_df160_8 9 rfl rfl ?_
    exact q_vret C B dJ0_checkIndex_df160_9 rfl rfl (fun t0 ht0 => ⟨rfl, rfl⟩)
  · refine q_gets (v := .ref tf) C hfm f1053 (fun _ h => h) dJ0_checkIndex_df160_2 5 rfl ?_
    refine q_callSX (n := 3) (rest := []) (Rr := []) C (c_J3_checkIndex_8e157 l hZ hI x n tf (by omega) (by omega)) gJ0_checkIndex_df160_J3_checkIndex_8e157 rfl rfl rfl (by decide +kernel) B.1 ⟨Nat.le_of_ble_eq_true rfl, Nat.le_of_ble_eq_true rfl⟩ rfl rfl (Nat.le_of_ble_eq_true rfl) dJ0_checkIndex_df160_5 ⟨(Nat.le_of_ble_eq_true rfl), (Nat.le_of_ble_eq_true rfl)⟩ [] [] (by decide : ([] ++ ([] : List Nat)).Perm (List.range 0)) rfl rfl 8 rfl (fun v0 R0 t0 ht0 hp0 => ?_)
    obtain ⟨rfl, rfl⟩ := hp0
    refine q_eqs (st' := [.int (nI x)]) rfl ?_
    refine q_eqR (Rs' := []) rfl ?_
    refine q_pop C dJ0_checkIndex_df160_8 9 rfl rfl ?_
    exact q_vret C B dJ0_checkIndex_df160_9 rfl rfl (fun t0 ht0 => ⟨rfl, rfl⟩)

set_option maxHeartbeats 400000 in
set_option maxRecDepth 100000 in
theorem c_J1_charAt_3b067 (l : Launch) {D : va_G} {tys : List (ClassId × FieldType)} {Z : (Nat → Prop) → State → Heap → Prop} (hZ : q_St Z) {cI : ClassId} (hI : tys[0]? = some (cI, .int)) {ad aw av : Nat → Nat} {tK : Nat} (hKs : q_Ks Z ad aw av tK) (i : Nat) (j : Nat) (hi5 : i < 5) (hj : j < (k_wo (i + 1)).length) : q_Ct l D tys Z yJ1_charAt_3b067 wsJ1_charAt_3b067 ({ frames := 3, cells := 0, slots := 0, locals := 102 } : Room) 0 0 [.ref ((av i)), .int (nI j)] [] (fun v0 R0 _ => v0 = some (.int (nI ((k_wc1 i j)))) ∧ R0 = []) := by
  have hcI := hI
  refine q_ct (cc := cJ1_charAt_3b067) (maxL := 2) (ret := (some .char)) (own := RJ1) (by decide) rfl hZ (Nat.le_of_ble_eq_true rfl) rfl ?_
  intro p9 e9 R s9 m9 args below meth c9 A Q C B
  have hts := C.2.2.2.2.1
  refine q_eqL (L' := [(0, .ref ((av i))), (1, .int (nI j))]) rfl ?_
  have hL5 := q_kL5 (i := i) hi5
  refine q_iload_n C dJ1_charAt_3b067_0 1 1 rfl rfl ?_
  refine q_aload_n C dJ1_charAt_3b067_1 2 0 rfl rfl ?_
  refine q_tlen C (q_kby (q_kc hKs C) (i := i) (by omega)) (v := nI ((k_wo (i + 1)).length)) (by rw [q_kll (by omega)]; rfl) dJ1_charAt_3b067_2 3 rfl ?_
  refine q_callSX (n := 2) (rest := []) (Rr := []) C (c_J0_checkIndex_df160 l hZ hI hKs j ((k_wo (i + 1)).length) (by omega) (by omega)) gJ1_charAt_3b067_J0_checkIndex_df160 rfl rfl rfl (by decide +kernel) B.1 ⟨Nat.le_of_ble_eq_true rfl, Nat.le_of_ble_eq_true rfl⟩ rfl rfl (Nat.le_of_ble_eq_true rfl) dJ1_charAt_3b067_3 ⟨(Nat.le_of_ble_eq_true rfl), (Nat.le_of_ble_eq_true rfl)⟩ [] [] (by decide : ([] ++ ([] : List Nat)).Perm (List.range 0)) rfl rfl 6 rfl (fun v0 R0 t0 ht0 hp0 => ?_)
  obtain ⟨rfl, rfl⟩ := hp0
  refine q_eqs (st' := []) rfl ?_
  refine q_eqR (Rs' := []) rfl ?_
  refine q_aload_n C dJ1_charAt_3b067_6 7 0 rfl rfl ?_
  refine q_iload_n C dJ1_charAt_3b067_7 8 1 rfl rfl ?_
  refine q_tb C (q_kby (q_kc hKs C) (i := i) (by omega)) j rfl (by rw [q_kll (by omega)]; omega) (by rw [q_kll (by omega)]; have := q_kL5 (i := i) (by omega); omega) (v := .int ((q_kb.getD i []).getD j 0)) rfl dJ1_charAt_3b067_8 9 rfl ?_
  refine q_sipush (v := nI 255) C dJ1_charAt_3b067_9 12 rfl (by decide) ?_
  refine q_iand (v := ((q_kb.getD i []).getD j 0) &&& (nI 255)) C dJ1_charAt_3b067_12 13 rfl rfl ?_
  refine q_i2c (v := nI ((k_wc1 i j))) C dJ1_charAt_3b067_13 14 rfl (q_kch i (by omega) j (by omega)).1 ?_
  exact q_nret C B (q_kch i (by omega) j (by omega)).2 dJ1_charAt_3b067_14 rfl rfl (fun t0 ht0 => ⟨rfl, rfl⟩)

set_option maxHeartbeats 400000 in
set_option maxRecDepth 100000 in
theorem c_J0_coder_7d493 (l : Launch) {D : va_G} {tys : List (ClassId × FieldType)} {Z : (Nat → Prop) → State → Heap → Prop} (hZ : q_St Z) {cI : ClassId} (hI : tys[0]? = some (cI, .int)) {ad aw av : Nat → Nat} {tK : Nat} (hKs : q_Ks Z ad aw av tK) (i : Nat) (hi5 : i < 5) : q_Ct l D tys Z yJ0_coder_7d493 wsJ0_coder_7d493 ({ frames := 1, cells := 0, slots := 0, locals := 42 } : Room) 0 0 [.ref ((aw i))] [] (fun v0 R0 _ => v0 = some (.int (nI 0)) ∧ R0 = []) := by
  have hcI := hI
  refine q_ct (cc := cJ0_coder_7d493) (maxL := 1) (ret := (some .byte)) (own := RJ0) (by decide) rfl hZ (Nat.le_of_ble_eq_true rfl) rfl ?_
  intro p9 e9 R s9 m9 args below meth c9 A Q C B
  have hts := C.2.2.2.2.1
  have f38 := hts (.fieldLink RJ0 38 "java/lang/String" "COMPACT_STRINGS" "Z") (by decide +kernel)
  have f15 := hts (.fieldLink RJ0 15 "java/lang/String" "coder" "B") (by decide +kernel)
  refine q_eqL (L' := [(0, .ref ((aw i)))]) rfl ?_
  refine q_gets (v := .int (nI 1)) C (q_kco1 (q_kc hKs C)) f38 (fun _ h => h) dJ0_coder_7d493_0 3 rfl ?_
  refine q_if_eq C dJ0_coder_7d493_3 6 13 rfl (by decide) (q_eq0 (by omega)) (fun h3 => False.elim (by first | omega | simp_all)) (fun h3 => ?_)
  refine q_aload_n C dJ0_coder_7d493_6 7 0 rfl rfl ?_
  refine q_geto C (q_kco (q_kc hKs C) (i := i) (by omega)) f15 (fun _ h => h) dJ0_coder_7d493_7 10 rfl ?_
  refine q_goto C dJ0_coder_7d493_10 14 (by decide) ?_
  exact q_nret C B (by decide) dJ0_coder_7d493_14 rfl rfl (fun t0 ht0 => ⟨rfl, rfl⟩)

set_option maxHeartbeats 400000 in
set_option maxRecDepth 100000 in
theorem c_J0_isLatin1_aae02 (l : Launch) {D : va_G} {tys : List (ClassId × FieldType)} {Z : (Nat → Prop) → State → Heap → Prop} (hZ : q_St Z) {cI : ClassId} (hI : tys[0]? = some (cI, .int)) {ad aw av : Nat → Nat} {tK : Nat} (hKs : q_Ks Z ad aw av tK) (i : Nat) (hi5 : i < 5) : q_Ct l D tys Z yJ0_isLatin1_aae02 wsJ0_isLatin1_aae02 ({ frames := 1, cells := 0, slots := 0, locals := 42 } : Room) 0 0 [.ref ((aw i))] [] (fun v0 R0 _ => v0 = some (.int (nI 1)) ∧ R0 = []) := by
  have hcI := hI
  refine q_ct (cc := cJ0_isLatin1_aae02) (maxL := 1) (ret := (some .boolean)) (own := RJ0) (by decide) rfl hZ (Nat.le_of_ble_eq_true rfl) rfl ?_
  intro p9 e9 R s9 m9 args below meth c9 A Q C B
  have hts := C.2.2.2.2.1
  have f38 := hts (.fieldLink RJ0 38 "java/lang/String" "COMPACT_STRINGS" "Z") (by decide +kernel)
  have f15 := hts (.fieldLink RJ0 15 "java/lang/String" "coder" "B") (by decide +kernel)
  refine q_eqL (L' := [(0, .ref ((aw i)))]) rfl ?_
  refine q_gets (v := .int (nI 1)) C (q_kco1 (q_kc hKs C)) f38 (fun _ h => h) dJ0_isLatin1_aae02_0 3 rfl ?_
  refine q_if_eq C dJ0_isLatin1_aae02_3 6 17 rfl (by decide) (q_eq0 (by omega)) (fun h3 => False.elim (by first | omega | simp_all)) (fun h3 => ?_)
  refine q_aload_n C dJ0_isLatin1_aae02_6 7 0 rfl rfl ?_
  refine q_geto C (q_kco (q_kc hKs C) (i := i) (by omega)) f15 (fun _ h => h) dJ0_isLatin1_aae02_7 10 rfl ?_
  refine q_if_ne C dJ0_isLatin1_aae02_10 13 17 rfl (by decide) (q_eq0 (by omega)) (fun h10 => False.elim (by first | omega | simp_all)) (fun h10 => ?_)
  refine q_iconst (v := nI 1) C dJ0_isLatin1_aae02_13 14 rfl (by decide) ?_
  refine q_goto C dJ0_isLatin1_aae02_14 18 (by decide) ?_
  exact q_zret C B (by decide) dJ0_isLatin1_aae02_18 rfl rfl (fun t0 ht0 => ⟨rfl, rfl⟩)

set_option maxHeartbeats 400000 in
set_option maxRecDepth 100000 in
theorem c_J0_length_8abf5 (l : Launch) {D : va_G} {tys : List (ClassId × FieldType)} {Z : (Nat → Prop) → State → Heap → Prop} (hZ : q_St Z) {cI : ClassId} (hI : tys[0]? = some (cI, .int)) {ad aw av : Nat → Nat} {tK : Nat} (hKs : q_Ks Z ad aw av tK) (i : Nat) (hi5 : i < 5) : q_Ct l D tys Z yJ0_length_8abf5 wsJ0_length_8abf5 ({ frames := 2, cells := 0, slots := 0, locals := 72 } : Room) 0 0 [.ref ((aw i))] [] (fun v0 R0 _ => v0 = some (.int (nI ((k_wo (i + 1)).length))) ∧ R0 = []) := by
  have hcI := hI
  refine q_ct (cc := cJ0_length_8abf5) (maxL := 1) (ret := (some .int)) (own := RJ0) (by decide) rfl hZ (Nat.le_of_ble_eq_true rfl) rfl ?_
  intro p9 e9 R s9 m9 args below meth c9 A Q C B
  have hts := C.2.2.2.2.1
  have f9 := hts (.fieldLink RJ0 9 "java/lang/String" "value" "[B") (by decide +kernel)
  refine q_eqL (L' := [(0, .ref ((aw i)))]) rfl ?_
  have hL5 := q_kL5 (i := i) hi5
  refine q_aload_n C dJ0_length_8abf5_0 1 0 rfl rfl ?_
  refine q_geto C (q_kva (q_kc hKs C) (i := i) (by omega)) f9 (fun _ h => h) dJ0_length_8abf5_1 4 rfl ?_
  refine q_tlen C (q_kby (q_kc hKs C) (i := i) (by omega)) (v := nI ((k_wo (i + 1)).length)) (by rw [q_kll (by omega)]; rfl) dJ0_length_8abf5_4 5 rfl ?_
  refine q_aload_n C dJ0_length_8abf5_5 6 0 rfl rfl ?_
  refine q_callVA (n := 0) (rest := [.int (nI ((k_wo (i + 1)).length))]) (Rr := []) C (q_kwo (q_kc hKs C) (i := i) (by omega)) (c_J0_coder_7d493 l hZ hI hKs i (by omega)) gJ0_length_8abf5_J0_coder_7d493 rfl rfl rfl (by decide +kernel) B.1 ⟨Nat.le_of_ble_eq_true rfl, Nat.le_of_ble_eq_true rfl⟩ rfl rfl (Nat.le_of_ble_eq_true rfl) dJ0_length_8abf5_6 ⟨(Nat.le_of_ble_eq_true rfl), (Nat.le_of_ble_eq_true rfl)⟩ [] [] (by decide : ([] ++ ([] : List Nat)).Perm (List.range 0)) rfl rfl 9 rfl (fun v0 R0 t0 ht0 hp0 => ?_)
  obtain ⟨rfl, rfl⟩ := hp0
  refine q_eqs (st' := [.int (nI 0), .int (nI ((k_wo (i + 1)).length))]) rfl ?_
  refine q_eqR (Rs' := []) rfl ?_
  refine q_ishr (v := nI ((k_wo (i + 1)).length)) C dJ0_length_8abf5_9 10 rfl (q_sh0 _) ?_
  exact q_iret C B dJ0_length_8abf5_10 rfl rfl (fun t0 ht0 => ⟨rfl, rfl⟩)

set_option maxHeartbeats 400000 in
set_option maxRecDepth 100000 in
theorem c_J0_charAt_5068e (l : Launch) {D : va_G} {tys : List (ClassId × FieldType)} {Z : (Nat → Prop) → State → Heap → Prop} (hZ : q_St Z) {cI : ClassId} (hI : tys[0]? = some (cI, .int)) {ad aw av : Nat → Nat} {tK : Nat} (hKs : q_Ks Z ad aw av tK) (i : Nat) (j : Nat) (hi5 : i < 5) (hj : j < (k_wo (i + 1)).length) : q_Ct l D tys Z yJ0_charAt_5068e wsJ0_charAt_5068e ({ frames := 4, cells := 0, slots := 0, locals := 132 } : Room) 0 0 [.ref ((aw i)), .int (nI j)] [] (fun v0 R0 _ => v0 = some (.int (nI ((k_wc1 i j)))) ∧ R0 = []) := by
  have hcI := hI
  refine q_ct (cc := cJ0_charAt_5068e) (maxL := 2) (ret := (some .char)) (own := RJ0) (by decide) rfl hZ (Nat.le_of_ble_eq_true rfl) rfl ?_
  intro p9 e9 R s9 m9 args below meth c9 A Q C B
  have hts := C.2.2.2.2.1
  have f9 := hts (.fieldLink RJ0 9 "java/lang/String" "value" "[B") (by decide +kernel)
  refine q_eqL (L' := [(0, .ref ((aw i))), (1, .int (nI j))]) rfl ?_
  have hL5 := q_kL5 (i := i) hi5
  refine q_aload_n C dJ0_charAt_5068e_0 1 0 rfl rfl ?_
  refine q_callVA (n := 0) (rest := []) (Rr := []) C (q_kwo (q_kc hKs C) (i := i) (by omega)) (c_J0_isLatin1_aae02 l hZ hI hKs i (by omega)) gJ0_charAt_5068e_J0_isLatin1_aae02 rfl rfl rfl (by decide +kernel) B.1 ⟨Nat.le_of_ble_eq_true rfl, Nat.le_of_ble_eq_true rfl⟩ rfl rfl (Nat.le_of_ble_eq_true rfl) dJ0_charAt_5068e_1 ⟨(Nat.le_of_ble_eq_true rfl), (Nat.le_of_ble_eq_true rfl)⟩ [] [] (by decide : ([] ++ ([] : List Nat)).Perm (List.range 0)) rfl rfl 4 rfl (fun v0 R0 t0 ht0 hp0 => ?_)
  obtain ⟨rfl, rfl⟩ := hp0
  refine q_eqs (st' := [.int (nI 1)]) rfl ?_
  refine q_eqR (Rs' := []) rfl ?_
  refine q_if_eq C dJ0_charAt_5068e_4 7 16 rfl (by decide) (q_eq0 (by omega)) (fun h4 => False.elim (by first | omega | simp_all)) (fun h4 => ?_)
  refine q_aload_n C dJ0_charAt_5068e_7 8 0 rfl rfl ?_
  refine q_geto C (q_kva (q_kc hKs C) (i := i) (by omega)) f9 (fun _ h => h) dJ0_charAt_5068e_8 11 rfl ?_
  refine q_iload_n C dJ0_charAt_5068e_11 12 1 rfl rfl ?_
  refine q_callSX (n := 2) (rest := []) (Rr := []) C (c_J1_charAt_3b067 l hZ hI hKs i j (by omega) (by omega)) gJ0_charAt_5068e_J1_charAt_3b067 rfl rfl rfl (by decide +kernel) B.1 ⟨Nat.le_of_ble_eq_true rfl, Nat.le_of_ble_eq_true rfl⟩ rfl rfl (Nat.le_of_ble_eq_true rfl) dJ0_charAt_5068e_12 ⟨(Nat.le_of_ble_eq_true rfl), (Nat.le_of_ble_eq_true rfl)⟩ [] [] (by decide : ([] ++ ([] : List Nat)).Perm (List.range 0)) rfl rfl 15 rfl (fun v0 R0 t0 ht0 hp0 => ?_)
  obtain ⟨rfl, rfl⟩ := hp0
  refine q_eqs (st' := [.int (nI ((k_wc1 i j)))]) rfl ?_
  refine q_eqR (Rs' := []) rfl ?_
  exact q_nret C B (q_kch i (by omega) j (by omega)).2 dJ0_charAt_5068e_15 rfl rfl (fun t0 ht0 => ⟨rfl, rfl⟩)

set_option maxHeartbeats 400000 in
set_option maxRecDepth 100000 in
theorem c_X5_firstNoLetter (l : Launch) {D : va_G} {tys : List (ClassId × FieldType)} {Z : (Nat → Prop) → State → Heap → Prop} (hZ : q_St Z) {cI : ClassId} (hI : tys[0]? = some (cI, .int)) (hN : q_Ns Z) {ad aw av : Nat → Nat} {tK : Nat} (hKs : q_Ks Z ad aw av tK) (h0 : Nat) (tx : List Nat) (w : va_W) (h : k_isT cI h0 tx w) (i : Nat) (f : Nat) (e : Nat) (hi5 : i < 5) (hfe : f ≤ e) (hel : e ≤ tx.length) (hblk : k_blk tx e) : q_Ct l D tys Z yX5_firstNoLetter wsX5_firstNoLetter ({ frames := 3, cells := 0, slots := 0, locals := 102 } : Room) 0 0 [.ref h0, .ref ((ad i)), .int (nI f), .int (nI e)] [w] (fun v0 R0 _ => v0 = some (.int (nI (f + k_lw tx (k_ml (i + 1)) f))) ∧ R0 = [w]) := by
  have hcI := hI
  refine q_ct (cc := cX5_firstNoLetter) (maxL := 5) (ret := (some .int)) (own := RX5) (by decide) rfl hZ (Nat.le_of_ble_eq_true rfl) rfl ?_
  intro p9 e9 R s9 m9 args below meth c9 A Q C B
  have hts := C.2.2.2.2.1
  have f66 := q_nsb hN C (by decide +kernel : Cond.fieldLinkNest "SortCases$Text" 66 "SortCases$PartKind" "mostLetters" "I" "SortCases" ∈ q_nest) rfl
  have nst_X6_isSort := q_nst hN C (by decide +kernel : Cond.methodLinkNest "SortCases$Text" 78 yX6_isSort "SortCases" ∈ q_nest)
  have iniX6 := hts (.initialized RX6) (by decide +kernel)
  have sta_X6_isSort := hts (.static yX6_isSort) (by decide +kernel)
  refine q_eqL (L' := [(0, .ref h0), (1, .ref ((ad i))), (2, .int (nI f)), (3, .int (nI e))]) rfl ?_
  have htl := h.1.1
  have hm60 := k_ml_60 hi5
  refine q_iload_n C dX5_firstNoLetter_0 1 2 rfl rfl ?_
  refine q_istore C dX5_firstNoLetter_1 3 rfl [(4, .int (nI f)), (0, .ref h0), (1, .ref ((ad i))), (2, .int (nI f)), (3, .int (nI e))] (by decide) rfl ?_
  have lp : ∀ (kk : Nat) (x : Nat), e - x < kk → ∀ (hfx : f ≤ x), ∀ (hxe : x ≤ e), ∀ (hxm : x ≤ f + k_ml (i + 1)), ∀ (hlw : k_lw tx (k_ml (i + 1)) f = x - f + k_lw tx (k_ml (i + 1) - (x - f)) x), q_V p9 l e9 R s9 m9 args below meth c9 D A 5 Q 0 0 3 [(4, .int (nI x)), (0, .ref h0), (1, .ref ((ad i))), (2, .int (nI f)), (3, .int (nI e))] [] [w] := by
    intro kk
    induction kk with
    | zero => intro x hkk; exact absurd hkk (Nat.not_lt_zero _)
    | succ kk ih_lp =>
      intro x hkk hfx hxe hxm hlw
      refine q_iload C dX5_firstNoLetter_3 5 0 rfl rfl ?_
      refine q_iload_n C dX5_firstNoLetter_5 6 4 rfl rfl ?_
      refine q_icmp_ge C dX5_firstNoLetter_6 9 41 rfl (by decide) (nI_leI (by omega) (by omega)) (fun h6 => ?_) (fun h6 => ?_)
      · refine q_iload_n C dX5_firstNoLetter_41 42 4 rfl rfl ?_
        exact q_iret C B dX5_firstNoLetter_42 rfl rfl (fun t0 ht0 => ⟨by rw [hlw, show x = e by omega, k_lw_e hblk, show f + (e - f + 0) = e by omega], rfl⟩)
      · refine q_iload C dX5_firstNoLetter_9 11 0 rfl rfl ?_
        refine q_iload_n C dX5_firstNoLetter_11 12 3 rfl rfl ?_
        refine q_isub (v := nI (x - f)) C dX5_firstNoLetter_12 13 rfl (q_nsub (by omega) (by omega)) ?_
        refine q_aload_n C dX5_firstNoLetter_13 14 2 rfl rfl ?_
        refine q_getoN C (q_kml (q_kc hKs C) (i := i) (by omega)) f66 (fun _ h => h) dX5_firstNoLetter_14 17 rfl ?_
        refine q_icmp_ge C dX5_firstNoLetter_17 20 32 rfl (by decide) (nI_leI (by omega) (by omega)) (fun h17 => ?_) (fun h17 => ?_)
        · refine q_iload C dX5_firstNoLetter_32 34 0 rfl rfl ?_
          exact q_iret C B dX5_firstNoLetter_34 rfl rfl (fun t0 ht0 => ⟨by rw [hlw, show k_lw tx (k_ml (i + 1) - (x - f)) x = 0 from (by first | exact k_lw_0 hlt | (rw [show k_ml (i + 1) - (x - f) = 0 by omega]; rfl)), show f + (x - f + 0) = x by omega], rfl⟩)
        · refine q_aload_n C dX5_firstNoLetter_20 21 1 rfl rfl ?_
          refine q_iload C dX5_firstNoLetter_21 23 0 rfl rfl ?_
          refine q_callV (k := 0) (ci := 4) (n := 1) (rest := []) (Rr := []) C rfl (k_isT_recv h) rfl (c_X5_letterAt l hZ hI h0 tx w h x (by omega)) gX5_firstNoLetter_X5_letterAt rfl rfl rfl (by decide +kernel) B.1 ⟨Nat.le_of_ble_eq_true rfl, Nat.le_of_ble_eq_true rfl⟩ rfl rfl (Nat.le_of_ble_eq_true rfl) dX5_firstNoLetter_23 ⟨(Nat.le_of_ble_eq_true rfl), (Nat.le_of_ble_eq_true rfl)⟩ [0] [] (by decide : ([0] ++ ([] : List Nat)).Perm (List.range 1)) rfl rfl 26 rfl (fun v0 R0 t0 ht0 hp0 => ?_)
          obtain ⟨rfl, rfl⟩ := hp0
          refine q_eqs (st' := [.int (nI (k_at tx x) - nI 97)]) rfl ?_
          refine q_eqR (Rs' := [w]) rfl ?_
          refine q_callSN (n := 1) (rest := []) (Rr := [w]) C (c_X6_isSort l hZ hI (nI (k_at tx x) - nI 97)) gX5_firstNoLetter_X6_isSort_n78 rfl rfl rfl nst_X6_isSort iniX6 (sta_X6_isSort) (by decide +kernel) B.1 ⟨Nat.le_of_ble_eq_true rfl, Nat.le_of_ble_eq_true rfl⟩ rfl rfl (Nat.le_of_ble_eq_true rfl) dX5_firstNoLetter_26 ⟨(Nat.le_of_ble_eq_true rfl), (Nat.le_of_ble_eq_true rfl)⟩ [] [0] (by decide : ([] ++ ([0] : List Nat)).Perm (List.range 1)) rfl rfl 29 rfl (fun v0 R0 t0 ht0 hp0 => ?_)
          obtain ⟨rfl, rfl⟩ := hp0
          refine q_eqs (st' := [.int (q_b (decide (0 ≤ (nI (k_at tx x) - nI 97) ∧ (nI (k_at tx x) - nI 97) < 12)))]) rfl ?_
          refine q_eqR (Rs' := [w]) rfl ?_
          have hg := k_sg_in (tx := tx) (i := x) (by omega)
          have h33 := (k_at_le h.1.2 (i := x) (by omega))
          
          refine q_if_ne (P := ¬ (97 ≤ k_sg tx x ∧ k_sg tx x ≤ 108)) C dX5_firstNoLetter_29 32 35 rfl (by decide) (by rw [hg]; exact k_sort_iff (by omega) (by omega)) (fun h29 => ?_) (fun h29 => ?_)
          · have hlt := Decidable.not_not.mp h29
            refine q_iinc (v := nI (x + 1)) C dX5_firstNoLetter_35 38 0 rfl rfl (q_ninc1 (by omega)) [(4, .int (nI (x + 1))), (0, .ref h0), (1, .ref ((ad i))), (2, .int (nI f)), (3, .int (nI e))] (by decide) rfl ?_
            refine q_goto C dX5_firstNoLetter_38 3 (by decide) ?_
            refine q_sub (L' := [(4, .int (nI (x + 1))), (0, .ref h0), (1, .ref ((ad i))), (2, .int (nI f)), (3, .int (nI e))]) [0, 1, 2, 3, 4] rfl ?_
            exact ih_lp (x + 1) (by omega) (by omega) (by omega) (by omega) (by rw [hlw, show k_ml (i + 1) - (x - f) = (k_ml (i + 1) - (x + 1 - f)) + 1 by omega, k_lw_1 hlt]; omega)
          · have hlt := h29
            refine q_iload C dX5_firstNoLetter_32 34 0 rfl rfl ?_
            exact q_iret C B dX5_firstNoLetter_34 rfl rfl (fun t0 ht0 => ⟨by rw [hlw, show k_lw tx (k_ml (i + 1) - (x - f)) x = 0 from (by first | exact k_lw_0 hlt | (rw [show k_ml (i + 1) - (x - f) = 0 by omega]; rfl)), show f + (x - f + 0) = x by omega], rfl⟩)
  refine q_sub (L' := [(4, .int (nI f)), (0, .ref h0), (1, .ref ((ad i))), (2, .int (nI f)), (3, .int (nI e))]) [0, 1, 2, 3, 4] rfl ?_
  exact lp _ f (Nat.lt_succ_self _) (by omega) (by omega) (by omega) (by rw [Nat.sub_self, Nat.sub_zero, Nat.zero_add])

set_option maxHeartbeats 400000 in
set_option maxRecDepth 100000 in
theorem c_X5_firstNoDigit (l : Launch) {D : va_G} {tys : List (ClassId × FieldType)} {Z : (Nat → Prop) → State → Heap → Prop} (hZ : q_St Z) {cI : ClassId} (hI : tys[0]? = some (cI, .int)) (hN : q_Ns Z) {ad aw av : Nat → Nat} {tK : Nat} (hKs : q_Ks Z ad aw av tK) (h0 : Nat) (tx : List Nat) (w : va_W) (h : k_isT cI h0 tx w) (i : Nat) (f : Nat) (e : Nat) (hi5 : i < 5) (hml : k_ml (i + 1) = 0) (hfe : f ≤ e) (hel : e ≤ tx.length) (hblk : k_blk tx e) : q_Ct l D tys Z yX5_firstNoDigit wsX5_firstNoDigit ({ frames := 2, cells := 0, slots := 0, locals := 72 } : Room) 0 0 [.ref h0, .ref ((ad i)), .int (nI f), .int (nI e)] [w] (fun v0 R0 _ => v0 = some (.int (nI (f + k_rs tx (i + 1) f))) ∧ R0 = [w]) := by
  have hcI := hI
  refine q_ct (cc := cX5_firstNoDigit) (maxL := 8) (ret := (some .int)) (own := RX5) (by decide) rfl hZ (Nat.le_of_ble_eq_true rfl) rfl ?_
  intro p9 e9 R s9 m9 args below meth c9 A Q C B
  have hts := C.2.2.2.2.1
  have f81 := q_nsb hN C (by decide +kernel : Cond.fieldLinkNest "SortCases$Text" 81 "SortCases$PartKind" "lowestNumber" "I" "SortCases" ∈ q_nest) rfl
  have f84 := q_nsb hN C (by decide +kernel : Cond.fieldLinkNest "SortCases$Text" 84 "SortCases$PartKind" "highestNumber" "I" "SortCases" ∈ q_nest) rfl
  refine q_eqL (L' := [(0, .ref h0), (1, .ref ((ad i))), (2, .int (nI f)), (3, .int (nI e))]) rfl ?_
  have htl := h.1.1
  obtain rfl | rfl | rfl := k_ml_3 hml hi5
  · refine q_iconst (v := nI 0) C dX5_firstNoDigit_0 1 rfl (by decide) ?_
    refine q_istore C dX5_firstNoDigit_1 3 rfl [(4, .int (nI 0)), (0, .ref h0), (1, .ref ((ad 1))), (2, .int (nI f)), (3, .int (nI e))] (by decide) rfl ?_
    refine q_iload_n C dX5_firstNoDigit_3 4 3 rfl rfl ?_
    refine q_istore C dX5_firstNoDigit_4 6 rfl [(5, .int (nI f)), (4, .int (nI 0)), (0, .ref h0), (1, .ref ((ad 1))), (2, .int (nI f)), (3, .int (nI e))] (by decide) rfl ?_
    refine q_iload C dX5_firstNoDigit_6 8 0 rfl rfl ?_
    refine q_iload_n C dX5_firstNoDigit_8 9 5 rfl rfl ?_
    refine q_icmp_ge C dX5_firstNoDigit_9 12 98 rfl (by decide) (nI_leI (by omega) (by omega)) (fun h9 => ?_) (fun h9 => ?_)
    · have hbk : k_sg tx (f) = 0 ∨ k_sg tx (f) = 59 := by rw [show f = e by omega]; exact hblk
      refine q_iload_n C dX5_firstNoDigit_98 99 5 rfl rfl ?_
      exact q_iret C B dX5_firstNoDigit_99 rfl rfl (fun t0 ht0 => ⟨by rw [show k_rs tx (1 + 1) f = k_dw tx 0 40 f from rfl, show f + k_dw tx 0 40 f = e by unfold k_dw; (repeat' split) <;> omega], rfl⟩)
    · refine q_aload_n C dX5_firstNoDigit_12 13 2 rfl rfl ?_
      refine q_iload C dX5_firstNoDigit_13 15 0 rfl rfl ?_
      refine q_callV (k := 0) (ci := 4) (n := 1) (rest := []) (Rr := []) C rfl (k_isT_recv h) rfl (c_X5_codeAt l hZ hI h0 tx w h f (by omega)) gX5_firstNoDigit_X5_codeAt rfl rfl rfl (by decide +kernel) B.1 ⟨Nat.le_of_ble_eq_true rfl, Nat.le_of_ble_eq_true rfl⟩ rfl rfl (Nat.le_of_ble_eq_true rfl) dX5_firstNoDigit_15 ⟨(Nat.le_of_ble_eq_true rfl), (Nat.le_of_ble_eq_true rfl)⟩ [0] [] (by decide : ([0] ++ ([] : List Nat)).Perm (List.range 1)) rfl rfl 18 rfl (fun v0 R0 t0 ht0 hp0 => ?_)
      obtain ⟨rfl, rfl⟩ := hp0
      refine q_eqs (st' := [.int (nI (k_at tx f))]) rfl ?_
      refine q_eqR (Rs' := [w]) rfl ?_
      have hc15 : k_at tx f ≤ 126 := (k_at_le h.1.2 (by omega)).2
      have hd15 : 33 ≤ k_at tx f := (k_at_le h.1.2 (by omega)).1
      have hg0 := k_sg_in (tx := tx) (i := f) (by omega)
      obtain hc0 | hc0 := Nat.lt_or_ge (k_at tx f) 48
      · refine q_bipush (v := nI 48) C dX5_firstNoDigit_18 20 rfl (by decide) ?_
        refine q_isub (v := nI (k_at tx f) - nI 48) C dX5_firstNoDigit_20 21 rfl rfl ?_
        refine q_istore C dX5_firstNoDigit_21 23 rfl [(6, .int (nI (k_at tx f) - nI 48)), (5, .int (nI f)), (4, .int (nI 0)), (0, .ref h0), (1, .ref ((ad 1))), (2, .int (nI f)), (3, .int (nI e))] (by decide) rfl ?_
        refine q_iload C dX5_firstNoDigit_23 25 1 rfl rfl ?_
        refine q_iload_n C dX5_firstNoDigit_25 26 5 rfl rfl ?_
        refine q_icmp_le C dX5_firstNoDigit_26 29 38 rfl (by decide) (nI_leI (by omega) (by omega)) (fun h26 => ?_) (fun h26 => False.elim (by first | omega | simp_all))
        refine q_iconst (v := nI 0) C dX5_firstNoDigit_38 39 rfl (by decide) ?_
        refine q_istore C dX5_firstNoDigit_39 41 rfl [(7, .int (nI 0)), (6, .int (nI (k_at tx f) - nI 48)), (5, .int (nI f)), (4, .int (nI 0)), (0, .ref h0), (1, .ref ((ad 1))), (2, .int (nI f)), (3, .int (nI e))] (by decide) rfl ?_
        refine q_iload C dX5_firstNoDigit_41 43 1 rfl rfl ?_
        refine q_if_lt C dX5_firstNoDigit_43 46 58 rfl (by decide) Iff.rfl (fun h43 => ?_) (fun h43 => False.elim (h43 (q_sneg (by omega) (by decide))))
        refine q_iload C dX5_firstNoDigit_58 60 2 rfl rfl ?_
        exact q_iret C B dX5_firstNoDigit_60 rfl rfl (fun t0 ht0 => ⟨by rw [show k_rs tx (1 + 1) f = k_dw tx 0 40 f from rfl, show f + k_dw tx 0 40 f = f by unfold k_dw; (repeat' split) <;> omega], rfl⟩)
      · refine q_bipush (v := nI 48) C dX5_firstNoDigit_18 20 rfl (by decide) ?_
        refine q_isub (v := nI (k_at tx f - 48)) C dX5_firstNoDigit_20 21 rfl (q_nsub (by omega) rfl) ?_
        refine q_istore C dX5_firstNoDigit_21 23 rfl [(6, .int (nI (k_at tx f - 48))), (5, .int (nI f)), (4, .int (nI 0)), (0, .ref h0), (1, .ref ((ad 1))), (2, .int (nI f)), (3, .int (nI e))] (by decide) rfl ?_
        refine q_iload C dX5_firstNoDigit_23 25 1 rfl rfl ?_
        refine q_iload_n C dX5_firstNoDigit_25 26 5 rfl rfl ?_
        refine q_icmp_le C dX5_firstNoDigit_26 29 38 rfl (by decide) (nI_leI (by omega) (by omega)) (fun h26 => ?_) (fun h26 => False.elim (by first | omega | simp_all))
        refine q_iconst (v := nI 0) C dX5_firstNoDigit_38 39 rfl (by decide) ?_
        refine q_istore C dX5_firstNoDigit_39 41 rfl [(7, .int (nI 0)), (6, .int (nI (k_at tx f - 48))), (5, .int (nI f)), (4, .int (nI 0)), (0, .ref h0), (1, .ref ((ad 1))), (2, .int (nI f)), (3, .int (nI e))] (by decide) rfl ?_
        refine q_iload C dX5_firstNoDigit_41 43 1 rfl rfl ?_
        refine q_if_lt C dX5_firstNoDigit_43 46 58 rfl (by decide) (q_lt0 (by omega)) (fun h43 => False.elim (by first | omega | simp_all)) (fun h43 => ?_)
        refine q_iload C dX5_firstNoDigit_46 48 1 rfl rfl ?_
        refine q_bipush (v := nI 9) C dX5_firstNoDigit_48 50 rfl (by decide) ?_
        refine q_icmp_gt C dX5_firstNoDigit_50 53 58 rfl (by decide) (nI_ltI (by omega) (by omega)) (fun h50 => ?_) (fun h50 => ?_)
        · refine q_iload C dX5_firstNoDigit_58 60 2 rfl rfl ?_
          exact q_iret C B dX5_firstNoDigit_60 rfl rfl (fun t0 ht0 => ⟨by rw [show k_rs tx (1 + 1) f = k_dw tx 0 40 f from rfl, show f + k_dw tx 0 40 f = f by unfold k_dw; (repeat' split) <;> omega], rfl⟩)
        · refine q_iload C dX5_firstNoDigit_53 55 0 rfl rfl ?_
          refine q_if_eq C dX5_firstNoDigit_55 58 61 rfl (by decide) (q_eq0 (by omega)) (fun h55 => ?_) (fun h55 => False.elim (by first | omega | simp_all))
          refine q_iload C dX5_firstNoDigit_61 63 3 rfl rfl ?_
          refine q_bipush (v := nI 10) C dX5_firstNoDigit_63 65 rfl (by decide) ?_
          refine q_imul (v := nI 0) C dX5_firstNoDigit_65 66 rfl (q_nmul (by omega)) ?_
          refine q_iload C dX5_firstNoDigit_66 68 1 rfl rfl ?_
          refine q_iadd (v := nI (k_at tx f - 48)) C dX5_firstNoDigit_68 69 rfl (q_nadd (by omega)) ?_
          refine q_istore C dX5_firstNoDigit_69 71 rfl [(4, .int (nI (k_at tx f - 48))), (7, .int (nI 0)), (6, .int (nI (k_at tx f - 48))), (5, .int (nI f)), (0, .ref h0), (1, .ref ((ad 1))), (2, .int (nI f)), (3, .int (nI e))] (by decide) rfl ?_
          refine q_iload C dX5_firstNoDigit_71 73 0 rfl rfl ?_
          refine q_aload_n C dX5_firstNoDigit_73 74 5 rfl rfl ?_
          refine q_getoN C (q_klo (q_kc hKs C) (i := 1) (by omega)) f81 (fun _ h => h) dX5_firstNoDigit_74 77 rfl ?_
          refine q_eqs (st' := [.int (nI 0), .int (nI (k_at tx f - 48))]) (by show ([.int (nI (k_klo (1 + 1))), .int (nI (k_at tx f - 48))] : List Value) = _; rw [show k_klo (1 + 1) = 0 from rfl]) ?_
          refine q_icmp_lt C dX5_firstNoDigit_77 80 89 rfl (by decide) (nI_ltI (by omega) (by omega)) (fun h77 => False.elim (by first | omega | simp_all)) (fun h77 => ?_)
          refine q_iload C dX5_firstNoDigit_80 82 0 rfl rfl ?_
          refine q_aload_n C dX5_firstNoDigit_82 83 5 rfl rfl ?_
          refine q_getoN C (q_khi (q_kc hKs C) (i := 1) (by omega)) f84 (fun _ h => h) dX5_firstNoDigit_83 86 rfl ?_
          refine q_eqs (st' := [.int (nI 40), .int (nI (k_at tx f - 48))]) (by show ([.int (k_khi (1 + 1)), .int (nI (k_at tx f - 48))] : List Value) = _; rw [show k_khi (1 + 1) = nI 40 from rfl]) ?_
          refine q_icmp_le C dX5_firstNoDigit_86 89 92 rfl (by decide) (nI_leI (by omega) (by omega)) (fun h86 => ?_) (fun h86 => False.elim (by first | omega | simp_all))
          refine q_iinc (v := nI (f + 1)) C dX5_firstNoDigit_92 95 3 rfl rfl (q_ninc1 (by omega)) [(5, .int (nI (f + 1))), (4, .int (nI (k_at tx f - 48))), (7, .int (nI 0)), (6, .int (nI (k_at tx f - 48))), (0, .ref h0), (1, .ref ((ad 1))), (2, .int (nI f)), (3, .int (nI e))] (by decide) rfl ?_
          refine q_goto C dX5_firstNoDigit_95 6 (by decide) ?_
          refine q_iload C dX5_firstNoDigit_6 8 0 rfl rfl ?_
          refine q_iload_n C dX5_firstNoDigit_8 9 7 rfl rfl ?_
          refine q_icmp_ge C dX5_firstNoDigit_9 12 98 rfl (by decide) (nI_leI (by omega) (by omega)) (fun h9 => ?_) (fun h9 => ?_)
          · have hbk : k_sg tx (f + 1) = 0 ∨ k_sg tx (f + 1) = 59 := by rw [show f + 1 = e by omega]; exact hblk
            refine q_iload_n C dX5_firstNoDigit_98 99 7 rfl rfl ?_
            exact q_iret C B dX5_firstNoDigit_99 rfl rfl (fun t0 ht0 => ⟨by rw [show k_rs tx (1 + 1) f = k_dw tx 0 40 f from rfl, show f + k_dw tx 0 40 f = e by unfold k_dw; (repeat' split) <;> omega], rfl⟩)
          · refine q_aload_n C dX5_firstNoDigit_12 13 4 rfl rfl ?_
            refine q_iload C dX5_firstNoDigit_13 15 0 rfl rfl ?_
            refine q_callV (k := 0) (ci := 4) (n := 1) (rest := []) (Rr := []) C rfl (k_isT_recv h) rfl (c_X5_codeAt l hZ hI h0 tx w h (f + 1) (by omega)) gX5_firstNoDigit_X5_codeAt rfl rfl rfl (by decide +kernel) B.1 ⟨Nat.le_of_ble_eq_true rfl, Nat.le_of_ble_eq_true rfl⟩ rfl rfl (Nat.le_of_ble_eq_true rfl) dX5_firstNoDigit_15 ⟨(Nat.le_of_ble_eq_true rfl), (Nat.le_of_ble_eq_true rfl)⟩ [0] [] (by decide : ([0] ++ ([] : List Nat)).Perm (List.range 1)) rfl rfl 18 rfl (fun v0 R0 t0 ht0 hp0 => ?_)
            obtain ⟨rfl, rfl⟩ := hp0
            refine q_eqs (st' := [.int (nI (k_at tx (f + 1)))]) rfl ?_
            refine q_eqR (Rs' := [w]) rfl ?_
            have hc15 : k_at tx (f + 1) ≤ 126 := (k_at_le h.1.2 (by omega)).2
            have hd15 : 33 ≤ k_at tx (f + 1) := (k_at_le h.1.2 (by omega)).1
            have hg1 := k_sg_in (tx := tx) (i := f + 1) (by omega)
            obtain hc1 | hc1 := Nat.lt_or_ge (k_at tx (f + 1)) 48
            · refine q_bipush (v := nI 48) C dX5_firstNoDigit_18 20 rfl (by decide) ?_
              refine q_isub (v := nI (k_at tx (f + 1)) - nI 48) C dX5_firstNoDigit_20 21 rfl rfl ?_
              refine q_istore C dX5_firstNoDigit_21 23 rfl [(6, .int (nI (k_at tx (f + 1)) - nI 48)), (5, .int (nI (f + 1))), (4, .int (nI (k_at tx f - 48))), (7, .int (nI 0)), (0, .ref h0), (1, .ref ((ad 1))), (2, .int (nI f)), (3, .int (nI e))] (by decide) rfl ?_
              refine q_iload C dX5_firstNoDigit_23 25 1 rfl rfl ?_
              refine q_iload_n C dX5_firstNoDigit_25 26 6 rfl rfl ?_
              refine q_icmp_le C dX5_firstNoDigit_26 29 38 rfl (by decide) (nI_leI (by omega) (by omega)) (fun h26 => False.elim (by first | omega | simp_all)) (fun h26 => ?_)
              refine q_iload C dX5_firstNoDigit_29 31 2 rfl rfl ?_
              refine q_if_ne C dX5_firstNoDigit_31 34 38 rfl (by decide) (q_eq0 (by omega)) (fun h31 => ?_) (fun h31 => ?_)
              · refine q_iconst (v := nI 0) C dX5_firstNoDigit_38 39 rfl (by decide) ?_
                refine q_istore C dX5_firstNoDigit_39 41 rfl [(7, .int (nI 0)), (6, .int (nI (k_at tx (f + 1)) - nI 48)), (5, .int (nI (f + 1))), (4, .int (nI (k_at tx f - 48))), (0, .ref h0), (1, .ref ((ad 1))), (2, .int (nI f)), (3, .int (nI e))] (by decide) rfl ?_
                refine q_iload C dX5_firstNoDigit_41 43 1 rfl rfl ?_
                refine q_if_lt C dX5_firstNoDigit_43 46 58 rfl (by decide) Iff.rfl (fun h43 => ?_) (fun h43 => False.elim (h43 (q_sneg (by omega) (by decide))))
                refine q_iload C dX5_firstNoDigit_58 60 2 rfl rfl ?_
                exact q_iret C B dX5_firstNoDigit_60 rfl rfl (fun t0 ht0 => ⟨by rw [show k_rs tx (1 + 1) f = k_dw tx 0 40 f from rfl, show f + k_dw tx 0 40 f = f + 1 by unfold k_dw; (repeat' split) <;> omega], rfl⟩)
              · refine q_iconst (v := nI 1) C dX5_firstNoDigit_34 35 rfl (by decide) ?_
                refine q_goto C dX5_firstNoDigit_35 39 (by decide) ?_
                refine q_istore C dX5_firstNoDigit_39 41 rfl [(7, .int (nI 1)), (6, .int (nI (k_at tx (f + 1)) - nI 48)), (5, .int (nI (f + 1))), (4, .int (nI (k_at tx f - 48))), (0, .ref h0), (1, .ref ((ad 1))), (2, .int (nI f)), (3, .int (nI e))] (by decide) rfl ?_
                refine q_iload C dX5_firstNoDigit_41 43 1 rfl rfl ?_
                refine q_if_lt C dX5_firstNoDigit_43 46 58 rfl (by decide) Iff.rfl (fun h43 => ?_) (fun h43 => False.elim (h43 (q_sneg (by omega) (by decide))))
                refine q_iload C dX5_firstNoDigit_58 60 2 rfl rfl ?_
                exact q_iret C B dX5_firstNoDigit_60 rfl rfl (fun t0 ht0 => ⟨by rw [show k_rs tx (1 + 1) f = k_dw tx 0 40 f from rfl, show f + k_dw tx 0 40 f = f + 1 by unfold k_dw; (repeat' split) <;> omega], rfl⟩)
            · refine q_bipush (v := nI 48) C dX5_firstNoDigit_18 20 rfl (by decide) ?_
              refine q_isub (v := nI (k_at tx (f + 1) - 48)) C dX5_firstNoDigit_20 21 rfl (q_nsub (by omega) rfl) ?_
              refine q_istore C dX5_firstNoDigit_21 23 rfl [(6, .int (nI (k_at tx (f + 1) - 48))), (5, .int (nI (f + 1))), (4, .int (nI (k_at tx f - 48))), (7, .int (nI 0)), (0, .ref h0), (1, .ref ((ad 1))), (2, .int (nI f)), (3, .int (nI e))] (by decide) rfl ?_
              refine q_iload C dX5_firstNoDigit_23 25 1 rfl rfl ?_
              refine q_iload_n C dX5_firstNoDigit_25 26 6 rfl rfl ?_
              refine q_icmp_le C dX5_firstNoDigit_26 29 38 rfl (by decide) (nI_leI (by omega) (by omega)) (fun h26 => False.elim (by first | omega | simp_all)) (fun h26 => ?_)
              refine q_iload C dX5_firstNoDigit_29 31 2 rfl rfl ?_
              refine q_if_ne C dX5_firstNoDigit_31 34 38 rfl (by decide) (q_eq0 (by omega)) (fun h31 => ?_) (fun h31 => ?_)
              · refine q_iconst (v := nI 0) C dX5_firstNoDigit_38 39 rfl (by decide) ?_
                refine q_istore C dX5_firstNoDigit_39 41 rfl [(7, .int (nI 0)), (6, .int (nI (k_at tx (f + 1) - 48))), (5, .int (nI (f + 1))), (4, .int (nI (k_at tx f - 48))), (0, .ref h0), (1, .ref ((ad 1))), (2, .int (nI f)), (3, .int (nI e))] (by decide) rfl ?_
                refine q_iload C dX5_firstNoDigit_41 43 1 rfl rfl ?_
                refine q_if_lt C dX5_firstNoDigit_43 46 58 rfl (by decide) (q_lt0 (by omega)) (fun h43 => False.elim (by first | omega | simp_all)) (fun h43 => ?_)
                refine q_iload C dX5_firstNoDigit_46 48 1 rfl rfl ?_
                refine q_bipush (v := nI 9) C dX5_firstNoDigit_48 50 rfl (by decide) ?_
                refine q_icmp_gt C dX5_firstNoDigit_50 53 58 rfl (by decide) (nI_ltI (by omega) (by omega)) (fun h50 => ?_) (fun h50 => ?_)
                · refine q_iload C dX5_firstNoDigit_58 60 2 rfl rfl ?_
                  exact q_iret C B dX5_firstNoDigit_60 rfl rfl (fun t0 ht0 => ⟨by rw [show k_rs tx (1 + 1) f = k_dw tx 0 40 f from rfl, show f + k_dw tx 0 40 f = f + 1 by unfold k_dw; (repeat' split) <;> omega], rfl⟩)
                · refine q_iload C dX5_firstNoDigit_53 55 0 rfl rfl ?_
                  refine q_if_eq C dX5_firstNoDigit_55 58 61 rfl (by decide) (q_eq0 (by omega)) (fun h55 => ?_) (fun h55 => False.elim (by first | omega | simp_all))
                  refine q_iload C dX5_firstNoDigit_61 63 3 rfl rfl ?_
                  refine q_bipush (v := nI 10) C dX5_firstNoDigit_63 65 rfl (by decide) ?_
                  refine q_imul (v := nI (10 * k_at tx f - 480)) C dX5_firstNoDigit_65 66 rfl (q_nmul (by omega)) ?_
                  refine q_iload C dX5_firstNoDigit_66 68 1 rfl rfl ?_
                  refine q_iadd (v := nI (10 * k_at tx f + k_at tx (f + 1) - 528)) C dX5_firstNoDigit_68 69 rfl (q_nadd (by omega)) ?_
                  refine q_istore C dX5_firstNoDigit_69 71 rfl [(4, .int (nI (10 * k_at tx f + k_at tx (f + 1) - 528))), (7, .int (nI 0)), (6, .int (nI (k_at tx (f + 1) - 48))), (5, .int (nI (f + 1))), (0, .ref h0), (1, .ref ((ad 1))), (2, .int (nI f)), (3, .int (nI e))] (by decide) rfl ?_
                  refine q_iload C dX5_firstNoDigit_71 73 0 rfl rfl ?_
                  refine q_aload_n C dX5_firstNoDigit_73 74 5 rfl rfl ?_
                  refine q_getoN C (q_klo (q_kc hKs C) (i := 1) (by omega)) f81 (fun _ h => h) dX5_firstNoDigit_74 77 rfl ?_
                  refine q_eqs (st' := [.int (nI 0), .int (nI (10 * k_at tx f + k_at tx (f + 1) - 528))]) (by show ([.int (nI (k_klo (1 + 1))), .int (nI (10 * k_at tx f + k_at tx (f + 1) - 528))] : List Value) = _; rw [show k_klo (1 + 1) = 0 from rfl]) ?_
                  refine q_icmp_lt C dX5_firstNoDigit_77 80 89 rfl (by decide) (nI_ltI (by omega) (by omega)) (fun h77 => False.elim (by first | omega | simp_all)) (fun h77 => ?_)
                  refine q_iload C dX5_firstNoDigit_80 82 0 rfl rfl ?_
                  refine q_aload_n C dX5_firstNoDigit_82 83 5 rfl rfl ?_
                  refine q_getoN C (q_khi (q_kc hKs C) (i := 1) (by omega)) f84 (fun _ h => h) dX5_firstNoDigit_83 86 rfl ?_
                  refine q_eqs (st' := [.int (nI 40), .int (nI (10 * k_at tx f + k_at tx (f + 1) - 528))]) (by show ([.int (k_khi (1 + 1)), .int (nI (10 * k_at tx f + k_at tx (f + 1) - 528))] : List Value) = _; rw [show k_khi (1 + 1) = nI 40 from rfl]) ?_
                  refine q_icmp_le C dX5_firstNoDigit_86 89 92 rfl (by decide) (nI_leI (by omega) (by omega)) (fun h86 => ?_) (fun h86 => ?_)
                  · refine q_iinc (v := nI (f + 2)) C dX5_firstNoDigit_92 95 3 rfl rfl (q_ninc1 (by omega)) [(5, .int (nI (f + 2))), (4, .int (nI (10 * k_at tx f + k_at tx (f + 1) - 528))), (7, .int (nI 0)), (6, .int (nI (k_at tx (f + 1) - 48))), (0, .ref h0), (1, .ref ((ad 1))), (2, .int (nI f)), (3, .int (nI e))] (by decide) rfl ?_
                    refine q_goto C dX5_firstNoDigit_95 6 (by decide) ?_
                    refine q_iload C dX5_firstNoDigit_6 8 0 rfl rfl ?_
                    refine q_iload_n C dX5_firstNoDigit_8 9 7 rfl rfl ?_
                    refine q_icmp_ge C dX5_firstNoDigit_9 12 98 rfl (by decide) (nI_leI (by omega) (by omega)) (fun h9 => ?_) (fun h9 => ?_)
                    · have hbk : k_sg tx (f + 2) = 0 ∨ k_sg tx (f + 2) = 59 := by rw [show f + 2 = e by omega]; exact hblk
                      refine q_iload_n C dX5_firstNoDigit_98 99 7 rfl rfl ?_
                      exact q_iret C B dX5_firstNoDigit_99 rfl rfl (fun t0 ht0 => ⟨by rw [show k_rs tx (1 + 1) f = k_dw tx 0 40 f from rfl, show f + k_dw tx 0 40 f = e by unfold k_dw; (repeat' split) <;> omega], rfl⟩)
                    · refine q_aload_n C dX5_firstNoDigit_12 13 4 rfl rfl ?_
                      refine q_iload C dX5_firstNoDigit_13 15 0 rfl rfl ?_
                      refine q_callV (k := 0) (ci := 4) (n := 1) (rest := []) (Rr := []) C rfl (k_isT_recv h) rfl (c_X5_codeAt l hZ hI h0 tx w h (f + 2) (by omega)) gX5_firstNoDigit_X5_codeAt rfl rfl rfl (by decide +kernel) B.1 ⟨Nat.le_of_ble_eq_true rfl, Nat.le_of_ble_eq_true rfl⟩ rfl rfl (Nat.le_of_ble_eq_true rfl) dX5_firstNoDigit_15 ⟨(Nat.le_of_ble_eq_true rfl), (Nat.le_of_ble_eq_true rfl)⟩ [0] [] (by decide : ([0] ++ ([] : List Nat)).Perm (List.range 1)) rfl rfl 18 rfl (fun v0 R0 t0 ht0 hp0 => ?_)
                      obtain ⟨rfl, rfl⟩ := hp0
                      refine q_eqs (st' := [.int (nI (k_at tx (f + 2)))]) rfl ?_
                      refine q_eqR (Rs' := [w]) rfl ?_
                      have hc15 : k_at tx (f + 2) ≤ 126 := (k_at_le h.1.2 (by omega)).2
                      have hd15 : 33 ≤ k_at tx (f + 2) := (k_at_le h.1.2 (by omega)).1
                      have hg2 := k_sg_in (tx := tx) (i := f + 2) (by omega)
                      obtain hc2 | hc2 := Nat.lt_or_ge (k_at tx (f + 2)) 48
                      · refine q_bipush (v := nI 48) C dX5_firstNoDigit_18 20 rfl (by decide) ?_
                        refine q_isub (v := nI (k_at tx (f + 2)) - nI 48) C dX5_firstNoDigit_20 21 rfl rfl ?_
                        refine q_istore C dX5_firstNoDigit_21 23 rfl [(6, .int (nI (k_at tx (f + 2)) - nI 48)), (5, .int (nI (f + 2))), (4, .int (nI (10 * k_at tx f + k_at tx (f + 1) - 528))), (7, .int (nI 0)), (0, .ref h0), (1, .ref ((ad 1))), (2, .int (nI f)), (3, .int (nI e))] (by decide) rfl ?_
                        refine q_iload C dX5_firstNoDigit_23 25 1 rfl rfl ?_
                        refine q_iload_n C dX5_firstNoDigit_25 26 6 rfl rfl ?_
                        refine q_icmp_le C dX5_firstNoDigit_26 29 38 rfl (by decide) (nI_leI (by omega) (by omega)) (fun h26 => False.elim (by first | omega | simp_all)) (fun h26 => ?_)
                        refine q_iload C dX5_firstNoDigit_29 31 2 rfl rfl ?_
                        refine q_if_ne C dX5_firstNoDigit_31 34 38 rfl (by decide) (q_eq0 (by omega)) (fun h31 => ?_) (fun h31 => False.elim (by first | omega | simp_all))
                        refine q_iconst (v := nI 0) C dX5_firstNoDigit_38 39 rfl (by decide) ?_
                        refine q_istore C dX5_firstNoDigit_39 41 rfl [(7, .int (nI 0)), (6, .int (nI (k_at tx (f + 2)) - nI 48)), (5, .int (nI (f + 2))), (4, .int (nI (10 * k_at tx f + k_at tx (f + 1) - 528))), (0, .ref h0), (1, .ref ((ad 1))), (2, .int (nI f)), (3, .int (nI e))] (by decide) rfl ?_
                        refine q_iload C dX5_firstNoDigit_41 43 1 rfl rfl ?_
                        refine q_if_lt C dX5_firstNoDigit_43 46 58 rfl (by decide) Iff.rfl (fun h43 => ?_) (fun h43 => False.elim (h43 (q_sneg (by omega) (by decide))))
                        refine q_iload C dX5_firstNoDigit_58 60 2 rfl rfl ?_
                        exact q_iret C B dX5_firstNoDigit_60 rfl rfl (fun t0 ht0 => ⟨by rw [show k_rs tx (1 + 1) f = k_dw tx 0 40 f from rfl, show f + k_dw tx 0 40 f = f + 2 by unfold k_dw; (repeat' split) <;> omega], rfl⟩)
                      · refine q_bipush (v := nI 48) C dX5_firstNoDigit_18 20 rfl (by decide) ?_
                        refine q_isub (v := nI (k_at tx (f + 2) - 48)) C dX5_firstNoDigit_20 21 rfl (q_nsub (by omega) rfl) ?_
                        refine q_istore C dX5_firstNoDigit_21 23 rfl [(6, .int (nI (k_at tx (f + 2) - 48))), (5, .int (nI (f + 2))), (4, .int (nI (10 * k_at tx f + k_at tx (f + 1) - 528))), (7, .int (nI 0)), (0, .ref h0), (1, .ref ((ad 1))), (2, .int (nI f)), (3, .int (nI e))] (by decide) rfl ?_
                        refine q_iload C dX5_firstNoDigit_23 25 1 rfl rfl ?_
                        refine q_iload_n C dX5_firstNoDigit_25 26 6 rfl rfl ?_
                        refine q_icmp_le C dX5_firstNoDigit_26 29 38 rfl (by decide) (nI_leI (by omega) (by omega)) (fun h26 => False.elim (by first | omega | simp_all)) (fun h26 => ?_)
                        refine q_iload C dX5_firstNoDigit_29 31 2 rfl rfl ?_
                        refine q_if_ne C dX5_firstNoDigit_31 34 38 rfl (by decide) (q_eq0 (by omega)) (fun h31 => ?_) (fun h31 => False.elim (by first | omega | simp_all))
                        refine q_iconst (v := nI 0) C dX5_firstNoDigit_38 39 rfl (by decide) ?_
                        refine q_istore C dX5_firstNoDigit_39 41 rfl [(7, .int (nI 0)), (6, .int (nI (k_at tx (f + 2) - 48))), (5, .int (nI (f + 2))), (4, .int (nI (10 * k_at tx f + k_at tx (f + 1) - 528))), (0, .ref h0), (1, .ref ((ad 1))), (2, .int (nI f)), (3, .int (nI e))] (by decide) rfl ?_
                        refine q_iload C dX5_firstNoDigit_41 43 1 rfl rfl ?_
                        refine q_if_lt C dX5_firstNoDigit_43 46 58 rfl (by decide) (q_lt0 (by omega)) (fun h43 => False.elim (by first | omega | simp_all)) (fun h43 => ?_)
                        refine q_iload C dX5_firstNoDigit_46 48 1 rfl rfl ?_
                        refine q_bipush (v := nI 9) C dX5_firstNoDigit_48 50 rfl (by decide) ?_
                        refine q_icmp_gt C dX5_firstNoDigit_50 53 58 rfl (by decide) (nI_ltI (by omega) (by omega)) (fun h50 => ?_) (fun h50 => ?_)
                        · refine q_iload C dX5_firstNoDigit_58 60 2 rfl rfl ?_
                          exact q_iret C B dX5_firstNoDigit_60 rfl rfl (fun t0 ht0 => ⟨by rw [show k_rs tx (1 + 1) f = k_dw tx 0 40 f from rfl, show f + k_dw tx 0 40 f = f + 2 by unfold k_dw; (repeat' split) <;> omega], rfl⟩)
                        · refine q_iload C dX5_firstNoDigit_53 55 0 rfl rfl ?_
                          refine q_if_eq C dX5_firstNoDigit_55 58 61 rfl (by decide) (q_eq0 (by omega)) (fun h55 => ?_) (fun h55 => False.elim (by first | omega | simp_all))
                          refine q_iload C dX5_firstNoDigit_61 63 3 rfl rfl ?_
                          refine q_bipush (v := nI 10) C dX5_firstNoDigit_63 65 rfl (by decide) ?_
                          refine q_imul (v := nI (100 * k_at tx f + 10 * k_at tx (f + 1) - 5280)) C dX5_firstNoDigit_65 66 rfl (q_nmul (by omega)) ?_
                          refine q_iload C dX5_firstNoDigit_66 68 1 rfl rfl ?_
                          refine q_iadd (v := nI (100 * k_at tx f + 10 * k_at tx (f + 1) + k_at tx (f + 2) - 5328)) C dX5_firstNoDigit_68 69 rfl (q_nadd (by omega)) ?_
                          refine q_istore C dX5_firstNoDigit_69 71 rfl [(4, .int (nI (100 * k_at tx f + 10 * k_at tx (f + 1) + k_at tx (f + 2) - 5328))), (7, .int (nI 0)), (6, .int (nI (k_at tx (f + 2) - 48))), (5, .int (nI (f + 2))), (0, .ref h0), (1, .ref ((ad 1))), (2, .int (nI f)), (3, .int (nI e))] (by decide) rfl ?_
                          refine q_iload C dX5_firstNoDigit_71 73 0 rfl rfl ?_
                          refine q_aload_n C dX5_firstNoDigit_73 74 5 rfl rfl ?_
                          refine q_getoN C (q_klo (q_kc hKs C) (i := 1) (by omega)) f81 (fun _ h => h) dX5_firstNoDigit_74 77 rfl ?_
                          refine q_eqs (st' := [.int (nI 0), .int (nI (100 * k_at tx f + 10 * k_at tx (f + 1) + k_at tx (f + 2) - 5328))]) (by show ([.int (nI (k_klo (1 + 1))), .int (nI (100 * k_at tx f + 10 * k_at tx (f + 1) + k_at tx (f + 2) - 5328))] : List Value) = _; rw [show k_klo (1 + 1) = 0 from rfl]) ?_
                          refine q_icmp_lt C dX5_firstNoDigit_77 80 89 rfl (by decide) (nI_ltI (by omega) (by omega)) (fun h77 => False.elim (by first | omega | simp_all)) (fun h77 => ?_)
                          refine q_iload C dX5_firstNoDigit_80 82 0 rfl rfl ?_
                          refine q_aload_n C dX5_firstNoDigit_82 83 5 rfl rfl ?_
                          refine q_getoN C (q_khi (q_kc hKs C) (i := 1) (by omega)) f84 (fun _ h => h) dX5_firstNoDigit_83 86 rfl ?_
                          refine q_eqs (st' := [.int (nI 40), .int (nI (100 * k_at tx f + 10 * k_at tx (f + 1) + k_at tx (f + 2) - 5328))]) (by show ([.int (k_khi (1 + 1)), .int (nI (100 * k_at tx f + 10 * k_at tx (f + 1) + k_at tx (f + 2) - 5328))] : List Value) = _; rw [show k_khi (1 + 1) = nI 40 from rfl]) ?_
                          refine q_icmp_le C dX5_firstNoDigit_86 89 92 rfl (by decide) (nI_leI (by omega) (by omega)) (fun h86 => False.elim (by first | omega | simp_all)) (fun h86 => ?_)
                          refine q_iload C dX5_firstNoDigit_89 91 3 rfl rfl ?_
                          exact q_iret C B dX5_firstNoDigit_91 rfl rfl (fun t0 ht0 => ⟨by rw [show k_rs tx (1 + 1) f = k_dw tx 0 40 f from rfl, show f + k_dw tx 0 40 f = f + 2 by unfold k_dw; (repeat' split) <;> omega], rfl⟩)
                  · refine q_iload C dX5_firstNoDigit_89 91 3 rfl rfl ?_
                    exact q_iret C B dX5_firstNoDigit_91 rfl rfl (fun t0 ht0 => ⟨by rw [show k_rs tx (1 + 1) f = k_dw tx 0 40 f from rfl, show f + k_dw tx 0 40 f = f + 1 by unfold k_dw; (repeat' split) <;> omega], rfl⟩)
              · refine q_iconst (v := nI 1) C dX5_firstNoDigit_34 35 rfl (by decide) ?_
                refine q_goto C dX5_firstNoDigit_35 39 (by decide) ?_
                refine q_istore C dX5_firstNoDigit_39 41 rfl [(7, .int (nI 1)), (6, .int (nI (k_at tx (f + 1) - 48))), (5, .int (nI (f + 1))), (4, .int (nI (k_at tx f - 48))), (0, .ref h0), (1, .ref ((ad 1))), (2, .int (nI f)), (3, .int (nI e))] (by decide) rfl ?_
                refine q_iload C dX5_firstNoDigit_41 43 1 rfl rfl ?_
                refine q_if_lt C dX5_firstNoDigit_43 46 58 rfl (by decide) (q_lt0 (by omega)) (fun h43 => False.elim (by first | omega | simp_all)) (fun h43 => ?_)
                refine q_iload C dX5_firstNoDigit_46 48 1 rfl rfl ?_
                refine q_bipush (v := nI 9) C dX5_firstNoDigit_48 50 rfl (by decide) ?_
                refine q_icmp_gt C dX5_firstNoDigit_50 53 58 rfl (by decide) (nI_ltI (by omega) (by omega)) (fun h50 => ?_) (fun h50 => ?_)
                · refine q_iload C dX5_firstNoDigit_58 60 2 rfl rfl ?_
                  exact q_iret C B dX5_firstNoDigit_60 rfl rfl (fun t0 ht0 => ⟨by rw [show k_rs tx (1 + 1) f = k_dw tx 0 40 f from rfl, show f + k_dw tx 0 40 f = f + 1 by unfold k_dw; (repeat' split) <;> omega], rfl⟩)
                · refine q_iload C dX5_firstNoDigit_53 55 0 rfl rfl ?_
                  refine q_if_eq C dX5_firstNoDigit_55 58 61 rfl (by decide) (q_eq0 (by omega)) (fun h55 => False.elim (by first | omega | simp_all)) (fun h55 => ?_)
                  refine q_iload C dX5_firstNoDigit_58 60 2 rfl rfl ?_
                  exact q_iret C B dX5_firstNoDigit_60 rfl rfl (fun t0 ht0 => ⟨by rw [show k_rs tx (1 + 1) f = k_dw tx 0 40 f from rfl, show f + k_dw tx 0 40 f = f + 1 by unfold k_dw; (repeat' split) <;> omega], rfl⟩)
  · refine q_iconst (v := nI 0) C dX5_firstNoDigit_0 1 rfl (by decide) ?_
    refine q_istore C dX5_firstNoDigit_1 3 rfl [(4, .int (nI 0)), (0, .ref h0), (1, .ref ((ad 2))), (2, .int (nI f)), (3, .int (nI e))] (by decide) rfl ?_
    refine q_iload_n C dX5_firstNoDigit_3 4 3 rfl rfl ?_
    refine q_istore C dX5_firstNoDigit_4 6 rfl [(5, .int (nI f)), (4, .int (nI 0)), (0, .ref h0), (1, .ref ((ad 2))), (2, .int (nI f)), (3, .int (nI e))] (by decide) rfl ?_
    refine q_iload C dX5_firstNoDigit_6 8 0 rfl rfl ?_
    refine q_iload_n C dX5_firstNoDigit_8 9 5 rfl rfl ?_
    refine q_icmp_ge C dX5_firstNoDigit_9 12 98 rfl (by decide) (nI_leI (by omega) (by omega)) (fun h9 => ?_) (fun h9 => ?_)
    · have hbk : k_sg tx (f) = 0 ∨ k_sg tx (f) = 59 := by rw [show f = e by omega]; exact hblk
      refine q_iload_n C dX5_firstNoDigit_98 99 5 rfl rfl ?_
      exact q_iret C B dX5_firstNoDigit_99 rfl rfl (fun t0 ht0 => ⟨by rw [show k_rs tx (2 + 1) f = 0 from rfl, show f + 0 = e by omega], rfl⟩)
    · refine q_aload_n C dX5_firstNoDigit_12 13 2 rfl rfl ?_
      refine q_iload C dX5_firstNoDigit_13 15 0 rfl rfl ?_
      refine q_callV (k := 0) (ci := 4) (n := 1) (rest := []) (Rr := []) C rfl (k_isT_recv h) rfl (c_X5_codeAt l hZ hI h0 tx w h f (by omega)) gX5_firstNoDigit_X5_codeAt rfl rfl rfl (by decide +kernel) B.1 ⟨Nat.le_of_ble_eq_true rfl, Nat.le_of_ble_eq_true rfl⟩ rfl rfl (Nat.le_of_ble_eq_true rfl) dX5_firstNoDigit_15 ⟨(Nat.le_of_ble_eq_true rfl), (Nat.le_of_ble_eq_true rfl)⟩ [0] [] (by decide : ([0] ++ ([] : List Nat)).Perm (List.range 1)) rfl rfl 18 rfl (fun v0 R0 t0 ht0 hp0 => ?_)
      obtain ⟨rfl, rfl⟩ := hp0
      refine q_eqs (st' := [.int (nI (k_at tx f))]) rfl ?_
      refine q_eqR (Rs' := [w]) rfl ?_
      have hc15 : k_at tx f ≤ 126 := (k_at_le h.1.2 (by omega)).2
      have hd15 : 33 ≤ k_at tx f := (k_at_le h.1.2 (by omega)).1
      have hg0 := k_sg_in (tx := tx) (i := f) (by omega)
      obtain hc0 | hc0 := Nat.lt_or_ge (k_at tx f) 48
      · refine q_bipush (v := nI 48) C dX5_firstNoDigit_18 20 rfl (by decide) ?_
        refine q_isub (v := nI (k_at tx f) - nI 48) C dX5_firstNoDigit_20 21 rfl rfl ?_
        refine q_istore C dX5_firstNoDigit_21 23 rfl [(6, .int (nI (k_at tx f) - nI 48)), (5, .int (nI f)), (4, .int (nI 0)), (0, .ref h0), (1, .ref ((ad 2))), (2, .int (nI f)), (3, .int (nI e))] (by decide) rfl ?_
        refine q_iload C dX5_firstNoDigit_23 25 1 rfl rfl ?_
        refine q_iload_n C dX5_firstNoDigit_25 26 5 rfl rfl ?_
        refine q_icmp_le C dX5_firstNoDigit_26 29 38 rfl (by decide) (nI_leI (by omega) (by omega)) (fun h26 => ?_) (fun h26 => False.elim (by first | omega | simp_all))
        refine q_iconst (v := nI 0) C dX5_firstNoDigit_38 39 rfl (by decide) ?_
        refine q_istore C dX5_firstNoDigit_39 41 rfl [(7, .int (nI 0)), (6, .int (nI (k_at tx f) - nI 48)), (5, .int (nI f)), (4, .int (nI 0)), (0, .ref h0), (1, .ref ((ad 2))), (2, .int (nI f)), (3, .int (nI e))] (by decide) rfl ?_
        refine q_iload C dX5_firstNoDigit_41 43 1 rfl rfl ?_
        refine q_if_lt C dX5_firstNoDigit_43 46 58 rfl (by decide) Iff.rfl (fun h43 => ?_) (fun h43 => False.elim (h43 (q_sneg (by omega) (by decide))))
        refine q_iload C dX5_firstNoDigit_58 60 2 rfl rfl ?_
        exact q_iret C B dX5_firstNoDigit_60 rfl rfl (fun t0 ht0 => ⟨by rw [show k_rs tx (2 + 1) f = 0 from rfl, show f + 0 = f by omega], rfl⟩)
      · refine q_bipush (v := nI 48) C dX5_firstNoDigit_18 20 rfl (by decide) ?_
        refine q_isub (v := nI (k_at tx f - 48)) C dX5_firstNoDigit_20 21 rfl (q_nsub (by omega) rfl) ?_
        refine q_istore C dX5_firstNoDigit_21 23 rfl [(6, .int (nI (k_at tx f - 48))), (5, .int (nI f)), (4, .int (nI 0)), (0, .ref h0), (1, .ref ((ad 2))), (2, .int (nI f)), (3, .int (nI e))] (by decide) rfl ?_
        refine q_iload C dX5_firstNoDigit_23 25 1 rfl rfl ?_
        refine q_iload_n C dX5_firstNoDigit_25 26 5 rfl rfl ?_
        refine q_icmp_le C dX5_firstNoDigit_26 29 38 rfl (by decide) (nI_leI (by omega) (by omega)) (fun h26 => ?_) (fun h26 => False.elim (by first | omega | simp_all))
        refine q_iconst (v := nI 0) C dX5_firstNoDigit_38 39 rfl (by decide) ?_
        refine q_istore C dX5_firstNoDigit_39 41 rfl [(7, .int (nI 0)), (6, .int (nI (k_at tx f - 48))), (5, .int (nI f)), (4, .int (nI 0)), (0, .ref h0), (1, .ref ((ad 2))), (2, .int (nI f)), (3, .int (nI e))] (by decide) rfl ?_
        refine q_iload C dX5_firstNoDigit_41 43 1 rfl rfl ?_
        refine q_if_lt C dX5_firstNoDigit_43 46 58 rfl (by decide) (q_lt0 (by omega)) (fun h43 => False.elim (by first | omega | simp_all)) (fun h43 => ?_)
        refine q_iload C dX5_firstNoDigit_46 48 1 rfl rfl ?_
        refine q_bipush (v := nI 9) C dX5_firstNoDigit_48 50 rfl (by decide) ?_
        refine q_icmp_gt C dX5_firstNoDigit_50 53 58 rfl (by decide) (nI_ltI (by omega) (by omega)) (fun h50 => ?_) (fun h50 => ?_)
        · refine q_iload C dX5_firstNoDigit_58 60 2 rfl rfl ?_
          exact q_iret C B dX5_firstNoDigit_60 rfl rfl (fun t0 ht0 => ⟨by rw [show k_rs tx (2 + 1) f = 0 from rfl, show f + 0 = f by omega], rfl⟩)
        · refine q_iload C dX5_firstNoDigit_53 55 0 rfl rfl ?_
          refine q_if_eq C dX5_firstNoDigit_55 58 61 rfl (by decide) (q_eq0 (by omega)) (fun h55 => ?_) (fun h55 => False.elim (by first | omega | simp_all))
          refine q_iload C dX5_firstNoDigit_61 63 3 rfl rfl ?_
          refine q_bipush (v := nI 10) C dX5_firstNoDigit_63 65 rfl (by decide) ?_
          refine q_imul (v := nI 0) C dX5_firstNoDigit_65 66 rfl (q_nmul (by omega)) ?_
          refine q_iload C dX5_firstNoDigit_66 68 1 rfl rfl ?_
          refine q_iadd (v := nI (k_at tx f - 48)) C dX5_firstNoDigit_68 69 rfl (q_nadd (by omega)) ?_
          refine q_istore C dX5_firstNoDigit_69 71 rfl [(4, .int (nI (k_at tx f - 48))), (7, .int (nI 0)), (6, .int (nI (k_at tx f - 48))), (5, .int (nI f)), (0, .ref h0), (1, .ref ((ad 2))), (2, .int (nI f)), (3, .int (nI e))] (by decide) rfl ?_
          refine q_iload C dX5_firstNoDigit_71 73 0 rfl rfl ?_
          refine q_aload_n C dX5_firstNoDigit_73 74 5 rfl rfl ?_
          refine q_getoN C (q_klo (q_kc hKs C) (i := 2) (by omega)) f81 (fun _ h => h) dX5_firstNoDigit_74 77 rfl ?_
          refine q_eqs (st' := [.int (nI 0), .int (nI (k_at tx f - 48))]) (by show ([.int (nI (k_klo (2 + 1))), .int (nI (k_at tx f - 48))] : List Value) = _; rw [show k_klo (2 + 1) = 0 from rfl]) ?_
          refine q_icmp_lt C dX5_firstNoDigit_77 80 89 rfl (by decide) (nI_ltI (by omega) (by omega)) (fun h77 => False.elim (by first | omega | simp_all)) (fun h77 => ?_)
          refine q_iload C dX5_firstNoDigit_80 82 0 rfl rfl ?_
          refine q_aload_n C dX5_firstNoDigit_82 83 5 rfl rfl ?_
          refine q_getoN C (q_khi (q_kc hKs C) (i := 2) (by omega)) f84 (fun _ h => h) dX5_firstNoDigit_83 86 rfl ?_
          refine q_eqs (st' := [.int (-1), .int (nI (k_at tx f - 48))]) (by show ([.int (k_khi (2 + 1)), .int (nI (k_at tx f - 48))] : List Value) = _; rw [show k_khi (2 + 1) = -1 from rfl]) ?_
          refine q_icmp_le C dX5_firstNoDigit_86 89 92 rfl (by decide) Iff.rfl (fun h86 => False.elim (q_nlm1 (by omega) h86)) (fun h86 => ?_)
          refine q_iload C dX5_firstNoDigit_89 91 3 rfl rfl ?_
          exact q_iret C B dX5_firstNoDigit_91 rfl rfl (fun t0 ht0 => ⟨by rw [show k_rs tx (2 + 1) f = 0 from rfl, show f + 0 = f by omega], rfl⟩)
  · refine q_iconst (v := nI 0) C dX5_firstNoDigit_0 1 rfl (by decide) ?_
    refine q_istore C dX5_firstNoDigit_1 3 rfl [(4, .int (nI 0)), (0, .ref h0), (1, .ref ((ad 3))), (2, .int (nI f)), (3, .int (nI e))] (by decide) rfl ?_
    refine q_iload_n C dX5_firstNoDigit_3 4 3 rfl rfl ?_
    refine q_istore C dX5_firstNoDigit_4 6 rfl [(5, .int (nI f)), (4, .int (nI 0)), (0, .ref h0), (1, .ref ((ad 3))), (2, .int (nI f)), (3, .int (nI e))] (by decide) rfl ?_
    refine q_iload C dX5_firstNoDigit_6 8 0 rfl rfl ?_
    refine q_iload_n C dX5_firstNoDigit_8 9 5 rfl rfl ?_
    refine q_icmp_ge C dX5_firstNoDigit_9 12 98 rfl (by decide) (nI_leI (by omega) (by omega)) (fun h9 => ?_) (fun h9 => ?_)
    · have hbk : k_sg tx (f) = 0 ∨ k_sg tx (f) = 59 := by rw [show f = e by omega]; exact hblk
      refine q_iload_n C dX5_firstNoDigit_98 99 5 rfl rfl ?_
      exact q_iret C B dX5_firstNoDigit_99 rfl rfl (fun t0 ht0 => ⟨by rw [show k_rs tx (3 + 1) f = k_dw tx 1 99 f from rfl, show f + k_dw tx 1 99 f = e by unfold k_dw; (repeat' split) <;> omega], rfl⟩)
    · refine q_aload_n C dX5_firstNoDigit_12 13 2 rfl rfl ?_
      refine q_iload C dX5_firstNoDigit_13 15 0 rfl rfl ?_
      refine q_callV (k := 0) (ci := 4) (n := 1) (rest := []) (Rr := []) C rfl (k_isT_recv h) rfl (c_X5_codeAt l hZ hI h0 tx w h f (by omega)) gX5_firstNoDigit_X5_codeAt rfl rfl rfl (by decide +kernel) B.1 ⟨Nat.le_of_ble_eq_true rfl, Nat.le_of_ble_eq_true rfl⟩ rfl rfl (Nat.le_of_ble_eq_true rfl) dX5_firstNoDigit_15 ⟨(Nat.le_of_ble_eq_true rfl), (Nat.le_of_ble_eq_true rfl)⟩ [0] [] (by decide : ([0] ++ ([] : List Nat)).Perm (List.range 1)) rfl rfl 18 rfl (fun v0 R0 t0 ht0 hp0 => ?_)
      obtain ⟨rfl, rfl⟩ := hp0
      refine q_eqs (st' := [.int (nI (k_at tx f))]) rfl ?_
      refine q_eqR (Rs' := [w]) rfl ?_
      have hc15 : k_at tx f ≤ 126 := (k_at_le h.1.2 (by omega)).2
      have hd15 : 33 ≤ k_at tx f := (k_at_le h.1.2 (by omega)).1
      have hg0 := k_sg_in (tx := tx) (i := f) (by omega)
      obtain hc0 | hc0 := Nat.lt_or_ge (k_at tx f) 48
      · refine q_bipush (v := nI 48) C dX5_firstNoDigit_18 20 rfl (by decide) ?_
        refine q_isub (v := nI (k_at tx f) - nI 48) C dX5_firstNoDigit_20 21 rfl rfl ?_
        refine q_istore C dX5_firstNoDigit_21 23 rfl [(6, .int (nI (k_at tx f) - nI 48)), (5, .int (nI f)), (4, .int (nI 0)), (0, .ref h0), (1, .ref ((ad 3))), (2, .int (nI f)), (3, .int (nI e))] (by decide) rfl ?_
        refine q_iload C dX5_firstNoDigit_23 25 1 rfl rfl ?_
        refine q_iload_n C dX5_firstNoDigit_25 26 5 rfl rfl ?_
        refine q_icmp_le C dX5_firstNoDigit_26 29 38 rfl (by decide) (nI_leI (by omega) (by omega)) (fun h26 => ?_) (fun h26 => False.elim (by first | omega | simp_all))
        refine q_iconst (v := nI 0) C dX5_firstNoDigit_38 39 rfl (by decide) ?_
        refine q_istore C dX5_firstNoDigit_39 41 rfl [(7, .int (nI 0)), (6, .int (nI (k_at tx f) - nI 48)), (5, .int (nI f)), (4, .int (nI 0)), (0, .ref h0), (1, .ref ((ad 3))), (2, .int (nI f)), (3, .int (nI e))] (by decide) rfl ?_
        refine q_iload C dX5_firstNoDigit_41 43 1 rfl rfl ?_
        refine q_if_lt C dX5_firstNoDigit_43 46 58 rfl (by decide) Iff.rfl (fun h43 => ?_) (fun h43 => False.elim (h43 (q_sneg (by omega) (by decide))))
        refine q_iload C dX5_firstNoDigit_58 60 2 rfl rfl ?_
        exact q_iret C B dX5_firstNoDigit_60 rfl rfl (fun t0 ht0 => ⟨by rw [show k_rs tx (3 + 1) f = k_dw tx 1 99 f from rfl, show f + k_dw tx 1 99 f = f by unfold k_dw; (repeat' split) <;> omega], rfl⟩)
      · refine q_bipush (v := nI 48) C dX5_firstNoDigit_18 20 rfl (by decide) ?_
        refine q_isub (v := nI (k_at tx f - 48)) C dX5_firstNoDigit_20 21 rfl (q_nsub (by omega) rfl) ?_
        refine q_istore C dX5_firstNoDigit_21 23 rfl [(6, .int (nI (k_at tx f - 48))), (5, .int (nI f)), (4, .int (nI 0)), (0, .ref h0), (1, .ref ((ad 3))), (2, .int (nI f)), (3, .int (nI e))] (by decide) rfl ?_
        refine q_iload C dX5_firstNoDigit_23 25 1 rfl rfl ?_
        refine q_iload_n C dX5_firstNoDigit_25 26 5 rfl rfl ?_
        refine q_icmp_le C dX5_firstNoDigit_26 29 38 rfl (by decide) (nI_leI (by omega) (by omega)) (fun h26 => ?_) (fun h26 => False.elim (by first | omega | simp_all))
        refine q_iconst (v := nI 0) C dX5_firstNoDigit_38 39 rfl (by decide) ?_
        refine q_istore C dX5_firstNoDigit_39 41 rfl [(7, .int (nI 0)), (6, .int (nI (k_at tx f - 48))), (5, .int (nI f)), (4, .int (nI 0)), (0, .ref h0), (1, .ref ((ad 3))), (2, .int (nI f)), (3, .int (nI e))] (by decide) rfl ?_
        refine q_iload C dX5_firstNoDigit_41 43 1 rfl rfl ?_
        refine q_if_lt C dX5_firstNoDigit_43 46 58 rfl (by decide) (q_lt0 (by omega)) (fun h43 => False.elim (by first | omega | simp_all)) (fun h43 => ?_)
        refine q_iload C dX5_firstNoDigit_46 48 1 rfl rfl ?_
        refine q_bipush (v := nI 9) C dX5_firstNoDigit_48 50 rfl (by decide) ?_
        refine q_icmp_gt C dX5_firstNoDigit_50 53 58 rfl (by decide) (nI_ltI (by omega) (by omega)) (fun h50 => ?_) (fun h50 => ?_)
        · refine q_iload C dX5_firstNoDigit_58 60 2 rfl rfl ?_
          exact q_iret C B dX5_firstNoDigit_60 rfl rfl (fun t0 ht0 => ⟨by rw [show k_rs tx (3 + 1) f = k_dw tx 1 99 f from rfl, show f + k_dw tx 1 99 f = f by unfold k_dw; (repeat' split) <;> omega], rfl⟩)
        · refine q_iload C dX5_firstNoDigit_53 55 0 rfl rfl ?_
          refine q_if_eq C dX5_firstNoDigit_55 58 61 rfl (by decide) (q_eq0 (by omega)) (fun h55 => ?_) (fun h55 => False.elim (by first | omega | simp_all))
          refine q_iload C dX5_firstNoDigit_61 63 3 rfl rfl ?_
          refine q_bipush (v := nI 10) C dX5_firstNoDigit_63 65 rfl (by decide) ?_
          refine q_imul (v := nI 0) C dX5_firstNoDigit_65 66 rfl (q_nmul (by omega)) ?_
          refine q_iload C dX5_firstNoDigit_66 68 1 rfl rfl ?_
          refine q_iadd (v := nI (k_at tx f - 48)) C dX5_firstNoDigit_68 69 rfl (q_nadd (by omega)) ?_
          refine q_istore C dX5_firstNoDigit_69 71 rfl [(4, .int (nI (k_at tx f - 48))), (7, .int (nI 0)), (6, .int (nI (k_at tx f - 48))), (5, .int (nI f)), (0, .ref h0), (1, .ref ((ad 3))), (2, .int (nI f)), (3, .int (nI e))] (by decide) rfl ?_
          refine q_iload C dX5_firstNoDigit_71 73 0 rfl rfl ?_
          refine q_aload_n C dX5_firstNoDigit_73 74 5 rfl rfl ?_
          refine q_getoN C (q_klo (q_kc hKs C) (i := 3) (by omega)) f81 (fun _ h => h) dX5_firstNoDigit_74 77 rfl ?_
          refine q_eqs (st' := [.int (nI 1), .int (nI (k_at tx f - 48))]) (by show ([.int (nI (k_klo (3 + 1))), .int (nI (k_at tx f - 48))] : List Value) = _; rw [show k_klo (3 + 1) = 1 from rfl]) ?_
          refine q_icmp_lt C dX5_firstNoDigit_77 80 89 rfl (by decide) (nI_ltI (by omega) (by omega)) (fun h77 => ?_) (fun h77 => ?_)
          · refine q_iload C dX5_firstNoDigit_89 91 3 rfl rfl ?_
            exact q_iret C B dX5_firstNoDigit_91 rfl rfl (fun t0 ht0 => ⟨by rw [show k_rs tx (3 + 1) f = k_dw tx 1 99 f from rfl, show f + k_dw tx 1 99 f = f by unfold k_dw; (repeat' split) <;> omega], rfl⟩)
          · refine q_iload C dX5_firstNoDigit_80 82 0 rfl rfl ?_
            refine q_aload_n C dX5_firstNoDigit_82 83 5 rfl rfl ?_
            refine q_getoN C (q_khi (q_kc hKs C) (i := 3) (by omega)) f84 (fun _ h => h) dX5_firstNoDigit_83 86 rfl ?_
            refine q_eqs (st' := [.int (nI 99), .int (nI (k_at tx f - 48))]) (by show ([.int (k_khi (3 + 1)), .int (nI (k_at tx f - 48))] : List Value) = _; rw [show k_khi (3 + 1) = nI 99 from rfl]) ?_
            refine q_icmp_le C dX5_firstNoDigit_86 89 92 rfl (by decide) (nI_leI (by omega) (by omega)) (fun h86 => ?_) (fun h86 => False.elim (by first | omega | simp_all))
            refine q_iinc (v := nI (f + 1)) C dX5_firstNoDigit_92 95 3 rfl rfl (q_ninc1 (by omega)) [(5, .int (nI (f + 1))), (4, .int (nI (k_at tx f - 48))), (7, .int (nI 0)), (6, .int (nI (k_at tx f - 48))), (0, .ref h0), (1, .ref ((ad 3))), (2, .int (nI f)), (3, .int (nI e))] (by decide) rfl ?_
            refine q_goto C dX5_firstNoDigit_95 6 (by decide) ?_
            refine q_iload C dX5_firstNoDigit_6 8 0 rfl rfl ?_
            refine q_iload_n C dX5_firstNoDigit_8 9 7 rfl rfl ?_
            refine q_icmp_ge C dX5_firstNoDigit_9 12 98 rfl (by decide) (nI_leI (by omega) (by omega)) (fun h9 => ?_) (fun h9 => ?_)
            · have hbk : k_sg tx (f + 1) = 0 ∨ k_sg tx (f + 1) = 59 := by rw [show f + 1 = e by omega]; exact hblk
              refine q_iload_n C dX5_firstNoDigit_98 99 7 rfl rfl ?_
              exact q_iret C B dX5_firstNoDigit_99 rfl rfl (fun t0 ht0 => ⟨by rw [show k_rs tx (3 + 1) f = k_dw tx 1 99 f from rfl, show f + k_dw tx 1 99 f = e by unfold k_dw; (repeat' split) <;> omega], rfl⟩)
            · refine q_aload_n C dX5_firstNoDigit_12 13 4 rfl rfl ?_
              refine q_iload C dX5_firstNoDigit_13 15 0 rfl rfl ?_
              refine q_callV (k := 0) (ci := 4) (n := 1) (rest := []) (Rr := []) C rfl (k_isT_recv h) rfl (c_X5_codeAt l hZ hI h0 tx w h (f + 1) (by omega)) gX5_firstNoDigit_X5_codeAt rfl rfl rfl (by decide +kernel) B.1 ⟨Nat.le_of_ble_eq_true rfl, Nat.le_of_ble_eq_true rfl⟩ rfl rfl (Nat.le_of_ble_eq_true rfl) dX5_firstNoDigit_15 ⟨(Nat.le_of_ble_eq_true rfl), (Nat.le_of_ble_eq_true rfl)⟩ [0] [] (by decide : ([0] ++ ([] : List Nat)).Perm (List.range 1)) rfl rfl 18 rfl (fun v0 R0 t0 ht0 hp0 => ?_)
              obtain ⟨rfl, rfl⟩ := hp0
              refine q_eqs (st' := [.int (nI (k_at tx (f + 1)))]) rfl ?_
              refine q_eqR (Rs' := [w]) rfl ?_
              have hc15 : k_at tx (f + 1) ≤ 126 := (k_at_le h.1.2 (by omega)).2
              have hd15 : 33 ≤ k_at tx (f + 1) := (k_at_le h.1.2 (by omega)).1
              have hg1 := k_sg_in (tx := tx) (i := f + 1) (by omega)
              obtain hc1 | hc1 := Nat.lt_or_ge (k_at tx (f + 1)) 48
              · refine q_bipush (v := nI 48) C dX5_firstNoDigit_18 20 rfl (by decide) ?_
                refine q_isub (v := nI (k_at tx (f + 1)) - nI 48) C dX5_firstNoDigit_20 21 rfl rfl ?_
                refine q_istore C dX5_firstNoDigit_21 23 rfl [(6, .int (nI (k_at tx (f + 1)) - nI 48)), (5, .int (nI (f + 1))), (4, .int (nI (k_at tx f - 48))), (7, .int (nI 0)), (0, .ref h0), (1, .ref ((ad 3))), (2, .int (nI f)), (3, .int (nI e))] (by decide) rfl ?_
                refine q_iload C dX5_firstNoDigit_23 25 1 rfl rfl ?_
                refine q_iload_n C dX5_firstNoDigit_25 26 6 rfl rfl ?_
                refine q_icmp_le C dX5_firstNoDigit_26 29 38 rfl (by decide) (nI_leI (by omega) (by omega)) (fun h26 => False.elim (by first | omega | simp_all)) (fun h26 => ?_)
                refine q_iload C dX5_firstNoDigit_29 31 2 rfl rfl ?_
                refine q_if_ne C dX5_firstNoDigit_31 34 38 rfl (by decide) (q_eq0 (by omega)) (fun h31 => ?_) (fun h31 => False.elim (by first | omega | simp_all))
                refine q_iconst (v := nI 0) C dX5_firstNoDigit_38 39 rfl (by decide) ?_
                refine q_istore C dX5_firstNoDigit_39 41 rfl [(7, .int (nI 0)), (6, .int (nI (k_at tx (f + 1)) - nI 48)), (5, .int (nI (f + 1))), (4, .int (nI (k_at tx f - 48))), (0, .ref h0), (1, .ref ((ad 3))), (2, .int (nI f)), (3, .int (nI e))] (by decide) rfl ?_
                refine q_iload C dX5_firstNoDigit_41 43 1 rfl rfl ?_
                refine q_if_lt C dX5_firstNoDigit_43 46 58 rfl (by decide) Iff.rfl (fun h43 => ?_) (fun h43 => False.elim (h43 (q_sneg (by omega) (by decide))))
                refine q_iload C dX5_firstNoDigit_58 60 2 rfl rfl ?_
                exact q_iret C B dX5_firstNoDigit_60 rfl rfl (fun t0 ht0 => ⟨by rw [show k_rs tx (3 + 1) f = k_dw tx 1 99 f from rfl, show f + k_dw tx 1 99 f = f + 1 by unfold k_dw; (repeat' split) <;> omega], rfl⟩)
              · refine q_bipush (v := nI 48) C dX5_firstNoDigit_18 20 rfl (by decide) ?_
                refine q_isub (v := nI (k_at tx (f + 1) - 48)) C dX5_firstNoDigit_20 21 rfl (q_nsub (by omega) rfl) ?_
                refine q_istore C dX5_firstNoDigit_21 23 rfl [(6, .int (nI (k_at tx (f + 1) - 48))), (5, .int (nI (f + 1))), (4, .int (nI (k_at tx f - 48))), (7, .int (nI 0)), (0, .ref h0), (1, .ref ((ad 3))), (2, .int (nI f)), (3, .int (nI e))] (by decide) rfl ?_
                refine q_iload C dX5_firstNoDigit_23 25 1 rfl rfl ?_
                refine q_iload_n C dX5_firstNoDigit_25 26 6 rfl rfl ?_
                refine q_icmp_le C dX5_firstNoDigit_26 29 38 rfl (by decide) (nI_leI (by omega) (by omega)) (fun h26 => False.elim (by first | omega | simp_all)) (fun h26 => ?_)
                refine q_iload C dX5_firstNoDigit_29 31 2 rfl rfl ?_
                refine q_if_ne C dX5_firstNoDigit_31 34 38 rfl (by decide) (q_eq0 (by omega)) (fun h31 => ?_) (fun h31 => False.elim (by first | omega | simp_all))
                refine q_iconst (v := nI 0) C dX5_firstNoDigit_38 39 rfl (by decide) ?_
                refine q_istore C dX5_firstNoDigit_39 41 rfl [(7, .int (nI 0)), (6, .int (nI (k_at tx (f + 1) - 48))), (5, .int (nI (f + 1))), (4, .int (nI (k_at tx f - 48))), (0, .ref h0), (1, .ref ((ad 3))), (2, .int (nI f)), (3, .int (nI e))] (by decide) rfl ?_
                refine q_iload C dX5_firstNoDigit_41 43 1 rfl rfl ?_
                refine q_if_lt C dX5_firstNoDigit_43 46 58 rfl (by decide) (q_lt0 (by omega)) (fun h43 => False.elim (by first | omega | simp_all)) (fun h43 => ?_)
                refine q_iload C dX5_firstNoDigit_46 48 1 rfl rfl ?_
                refine q_bipush (v := nI 9) C dX5_firstNoDigit_48 50 rfl (by decide) ?_
                refine q_icmp_gt C dX5_firstNoDigit_50 53 58 rfl (by decide) (nI_ltI (by omega) (by omega)) (fun h50 => ?_) (fun h50 => ?_)
                · refine q_iload C dX5_firstNoDigit_58 60 2 rfl rfl ?_
                  exact q_iret C B dX5_firstNoDigit_60 rfl rfl (fun t0 ht0 => ⟨by rw [show k_rs tx (3 + 1) f = k_dw tx 1 99 f from rfl, show f + k_dw tx 1 99 f = f + 1 by unfold k_dw; (repeat' split) <;> omega], rfl⟩)
                · refine q_iload C dX5_firstNoDigit_53 55 0 rfl rfl ?_
                  refine q_if_eq C dX5_firstNoDigit_55 58 61 rfl (by decide) (q_eq0 (by omega)) (fun h55 => ?_) (fun h55 => False.elim (by first | omega | simp_all))
                  refine q_iload C dX5_firstNoDigit_61 63 3 rfl rfl ?_
                  refine q_bipush (v := nI 10) C dX5_firstNoDigit_63 65 rfl (by decide) ?_
                  refine q_imul (v := nI (10 * k_at tx f - 480)) C dX5_firstNoDigit_65 66 rfl (q_nmul (by omega)) ?_
                  refine q_iload C dX5_firstNoDigit_66 68 1 rfl rfl ?_
                  refine q_iadd (v := nI (10 * k_at tx f + k_at tx (f + 1) - 528)) C dX5_firstNoDigit_68 69 rfl (q_nadd (by omega)) ?_
                  refine q_istore C dX5_firstNoDigit_69 71 rfl [(4, .int (nI (10 * k_at tx f + k_at tx (f + 1) - 528))), (7, .int (nI 0)), (6, .int (nI (k_at tx (f + 1) - 48))), (5, .int (nI (f + 1))), (0, .ref h0), (1, .ref ((ad 3))), (2, .int (nI f)), (3, .int (nI e))] (by decide) rfl ?_
                  refine q_iload C dX5_firstNoDigit_71 73 0 rfl rfl ?_
                  refine q_aload_n C dX5_firstNoDigit_73 74 5 rfl rfl ?_
                  refine q_getoN C (q_klo (q_kc hKs C) (i := 3) (by omega)) f81 (fun _ h => h) dX5_firstNoDigit_74 77 rfl ?_
                  refine q_eqs (st' := [.int (nI 1), .int (nI (10 * k_at tx f + k_at tx (f + 1) - 528))]) (by show ([.int (nI (k_klo (3 + 1))), .int (nI (10 * k_at tx f + k_at tx (f + 1) - 528))] : List Value) = _; rw [show k_klo (3 + 1) = 1 from rfl]) ?_
                  refine q_icmp_lt C dX5_firstNoDigit_77 80 89 rfl (by decide) (nI_ltI (by omega) (by omega)) (fun h77 => False.elim (by first | omega | simp_all)) (fun h77 => ?_)
                  refine q_iload C dX5_firstNoDigit_80 82 0 rfl rfl ?_
                  refine q_aload_n C dX5_firstNoDigit_82 83 5 rfl rfl ?_
                  refine q_getoN C (q_khi (q_kc hKs C) (i := 3) (by omega)) f84 (fun _ h => h) dX5_firstNoDigit_83 86 rfl ?_
                  refine q_eqs (st' := [.int (nI 99), .int (nI (10 * k_at tx f + k_at tx (f + 1) - 528))]) (by show ([.int (k_khi (3 + 1)), .int (nI (10 * k_at tx f + k_at tx (f + 1) - 528))] : List Value) = _; rw [show k_khi (3 + 1) = nI 99 from rfl]) ?_
                  refine q_icmp_le C dX5_firstNoDigit_86 89 92 rfl (by decide) (nI_leI (by omega) (by omega)) (fun h86 => ?_) (fun h86 => False.elim (by first | omega | simp_all))
                  refine q_iinc (v := nI (f + 2)) C dX5_firstNoDigit_92 95 3 rfl rfl (q_ninc1 (by omega)) [(5, .int (nI (f + 2))), (4, .int (nI (10 * k_at tx f + k_at tx (f + 1) - 528))), (7, .int (nI 0)), (6, .int (nI (k_at tx (f + 1) - 48))), (0, .ref h0), (1, .ref ((ad 3))), (2, .int (nI f)), (3, .int (nI e))] (by decide) rfl ?_
                  refine q_goto C dX5_firstNoDigit_95 6 (by decide) ?_
                  refine q_iload C dX5_firstNoDigit_6 8 0 rfl rfl ?_
                  refine q_iload_n C dX5_firstNoDigit_8 9 7 rfl rfl ?_
                  refine q_icmp_ge C dX5_firstNoDigit_9 12 98 rfl (by decide) (nI_leI (by omega) (by omega)) (fun h9 => ?_) (fun h9 => ?_)
                  · have hbk : k_sg tx (f + 2) = 0 ∨ k_sg tx (f + 2) = 59 := by rw [show f + 2 = e by omega]; exact hblk
                    refine q_iload_n C dX5_firstNoDigit_98 99 7 rfl rfl ?_
                    exact q_iret C B dX5_firstNoDigit_99 rfl rfl (fun t0 ht0 => ⟨by rw [show k_rs tx (3 + 1) f = k_dw tx 1 99 f from rfl, show f + k_dw tx 1 99 f = e by unfold k_dw; (repeat' split) <;> omega], rfl⟩)
                  · refine q_aload_n C dX5_firstNoDigit_12 13 4 rfl rfl ?_
                    refine q_iload C dX5_firstNoDigit_13 15 0 rfl rfl ?_
                    refine q_callV (k := 0) (ci := 4) (n := 1) (rest := []) (Rr := []) C rfl (k_isT_recv h) rfl (c_X5_codeAt l hZ hI h0 tx w h (f + 2) (by omega)) gX5_firstNoDigit_X5_codeAt rfl rfl rfl (by decide +kernel) B.1 ⟨Nat.le_of_ble_eq_true rfl, Nat.le_of_ble_eq_true rfl⟩ rfl rfl (Nat.le_of_ble_eq_true rfl) dX5_firstNoDigit_15 ⟨(Nat.le_of_ble_eq_true rfl), (Nat.le_of_ble_eq_true rfl)⟩ [0] [] (by decide : ([0] ++ ([] : List Nat)).Perm (List.range 1)) rfl rfl 18 rfl (fun v0 R0 t0 ht0 hp0 => ?_)
                    obtain ⟨rfl, rfl⟩ := hp0
                    refine q_eqs (st' := [.int (nI (k_at tx (f + 2)))]) rfl ?_
                    refine q_eqR (Rs' := [w]) rfl ?_
                    have hc15 : k_at tx (f + 2) ≤ 126 := (k_at_le h.1.2 (by omega)).2
                    have hd15 : 33 ≤ k_at tx (f + 2) := (k_at_le h.1.2 (by omega)).1
                    have hg2 := k_sg_in (tx := tx) (i := f + 2) (by omega)
                    obtain hc2 | hc2 := Nat.lt_or_ge (k_at tx (f + 2)) 48
                    · refine q_bipush (v := nI 48) C dX5_firstNoDigit_18 20 rfl (by decide) ?_
                      refine q_isub (v := nI (k_at tx (f + 2)) - nI 48) C dX5_firstNoDigit_20 21 rfl rfl ?_
                      refine q_istore C dX5_firstNoDigit_21 23 rfl [(6, .int (nI (k_at tx (f + 2)) - nI 48)), (5, .int (nI (f + 2))), (4, .int (nI (10 * k_at tx f + k_at tx (f + 1) - 528))), (7, .int (nI 0)), (0, .ref h0), (1, .ref ((ad 3))), (2, .int (nI f)), (3, .int (nI e))] (by decide) rfl ?_
                      refine q_iload C dX5_firstNoDigit_23 25 1 rfl rfl ?_
                      refine q_iload_n C dX5_firstNoDigit_25 26 6 rfl rfl ?_
                      refine q_icmp_le C dX5_firstNoDigit_26 29 38 rfl (by decide) (nI_leI (by omega) (by omega)) (fun h26 => False.elim (by first | omega | simp_all)) (fun h26 => ?_)
                      refine q_iload C dX5_firstNoDigit_29 31 2 rfl rfl ?_
                      refine q_if_ne C dX5_firstNoDigit_31 34 38 rfl (by decide) (q_eq0 (by omega)) (fun h31 => ?_) (fun h31 => False.elim (by first | omega | simp_all))
                      refine q_iconst (v := nI 0) C dX5_firstNoDigit_38 39 rfl (by decide) ?_
                      refine q_istore C dX5_firstNoDigit_39 41 rfl [(7, .int (nI 0)), (6, .int (nI (k_at tx (f + 2)) - nI 48)), (5, .int (nI (f + 2))), (4, .int (nI (10 * k_at tx f + k_at tx (f + 1) - 528))), (0, .ref h0), (1, .ref ((ad 3))), (2, .int (nI f)), (3, .int (nI e))] (by decide) rfl ?_
                      refine q_iload C dX5_firstNoDigit_41 43 1 rfl rfl ?_
                      refine q_if_lt C dX5_firstNoDigit_43 46 58 rfl (by decide) Iff.rfl (fun h43 => ?_) (fun h43 => False.elim (h43 (q_sneg (by omega) (by decide))))
                      refine q_iload C dX5_firstNoDigit_58 60 2 rfl rfl ?_
                      exact q_iret C B dX5_firstNoDigit_60 rfl rfl (fun t0 ht0 => ⟨by rw [show k_rs tx (3 + 1) f = k_dw tx 1 99 f from rfl, show f + k_dw tx 1 99 f = f + 2 by unfold k_dw; (repeat' split) <;> omega], rfl⟩)
                    · refine q_bipush (v := nI 48) C dX5_firstNoDigit_18 20 rfl (by decide) ?_
                      refine q_isub (v := nI (k_at tx (f + 2) - 48)) C dX5_firstNoDigit_20 21 rfl (q_nsub (by omega) rfl) ?_
                      refine q_istore C dX5_firstNoDigit_21 23 rfl [(6, .int (nI (k_at tx (f + 2) - 48))), (5, .int (nI (f + 2))), (4, .int (nI (10 * k_at tx f + k_at tx (f + 1) - 528))), (7, .int (nI 0)), (0, .ref h0), (1, .ref ((ad 3))), (2, .int (nI f)), (3, .int (nI e))] (by decide) rfl ?_
                      refine q_iload C dX5_firstNoDigit_23 25 1 rfl rfl ?_
                      refine q_iload_n C dX5_firstNoDigit_25 26 6 rfl rfl ?_
                      refine q_icmp_le C dX5_firstNoDigit_26 29 38 rfl (by decide) (nI_leI (by omega) (by omega)) (fun h26 => False.elim (by first | omega | simp_all)) (fun h26 => ?_)
                      refine q_iload C dX5_firstNoDigit_29 31 2 rfl rfl ?_
                      refine q_if_ne C dX5_firstNoDigit_31 34 38 rfl (by decide) (q_eq0 (by omega)) (fun h31 => ?_) (fun h31 => False.elim (by first | omega | simp_all))
                      refine q_iconst (v := nI 0) C dX5_firstNoDigit_38 39 rfl (by decide) ?_
                      refine q_istore C dX5_firstNoDigit_39 41 rfl [(7, .int (nI 0)), (6, .int (nI (k_at tx (f + 2) - 48))), (5, .int (nI (f + 2))), (4, .int (nI (10 * k_at tx f + k_at tx (f + 1) - 528))), (0, .ref h0), (1, .ref ((ad 3))), (2, .int (nI f)), (3, .int (nI e))] (by decide) rfl ?_
                      refine q_iload C dX5_firstNoDigit_41 43 1 rfl rfl ?_
                      refine q_if_lt C dX5_firstNoDigit_43 46 58 rfl (by decide) (q_lt0 (by omega)) (fun h43 => False.elim (by first | omega | simp_all)) (fun h43 => ?_)
                      refine q_iload C dX5_firstNoDigit_46 48 1 rfl rfl ?_
                      refine q_bipush (v := nI 9) C dX5_firstNoDigit_48 50 rfl (by decide) ?_
                      refine q_icmp_gt C dX5_firstNoDigit_50 53 58 rfl (by decide) (nI_ltI (by omega) (by omega)) (fun h50 => ?_) (fun h50 => ?_)
                      · refine q_iload C dX5_firstNoDigit_58 60 2 rfl rfl ?_
                        exact q_iret C B dX5_firstNoDigit_60 rfl rfl (fun t0 ht0 => ⟨by rw [show k_rs tx (3 + 1) f = k_dw tx 1 99 f from rfl, show f + k_dw tx 1 99 f = f + 2 by unfold k_dw; (repeat' split) <;> omega], rfl⟩)
                      · refine q_iload C dX5_firstNoDigit_53 55 0 rfl rfl ?_
                        refine q_if_eq C dX5_firstNoDigit_55 58 61 rfl (by decide) (q_eq0 (by omega)) (fun h55 => ?_) (fun h55 => False.elim (by first | omega | simp_all))
                        refine q_iload C dX5_firstNoDigit_61 63 3 rfl rfl ?_
                        refine q_bipush (v := nI 10) C dX5_firstNoDigit_63 65 rfl (by decide) ?_
                        refine q_imul (v := nI (100 * k_at tx f + 10 * k_at tx (f + 1) - 5280)) C dX5_firstNoDigit_65 66 rfl (q_nmul (by omega)) ?_
                        refine q_iload C dX5_firstNoDigit_66 68 1 rfl rfl ?_
                        refine q_iadd (v := nI (100 * k_at tx f + 10 * k_at tx (f + 1) + k_at tx (f + 2) - 5328)) C dX5_firstNoDigit_68 69 rfl (q_nadd (by omega)) ?_
                        refine q_istore C dX5_firstNoDigit_69 71 rfl [(4, .int (nI (100 * k_at tx f + 10 * k_at tx (f + 1) + k_at tx (f + 2) - 5328))), (7, .int (nI 0)), (6, .int (nI (k_at tx (f + 2) - 48))), (5, .int (nI (f + 2))), (0, .ref h0), (1, .ref ((ad 3))), (2, .int (nI f)), (3, .int (nI e))] (by decide) rfl ?_
                        refine q_iload C dX5_firstNoDigit_71 73 0 rfl rfl ?_
                        refine q_aload_n C dX5_firstNoDigit_73 74 5 rfl rfl ?_
                        refine q_getoN C (q_klo (q_kc hKs C) (i := 3) (by omega)) f81 (fun _ h => h) dX5_firstNoDigit_74 77 rfl ?_
                        refine q_eqs (st' := [.int (nI 1), .int (nI (100 * k_at tx f + 10 * k_at tx (f + 1) + k_at tx (f + 2) - 5328))]) (by show ([.int (nI (k_klo (3 + 1))), .int (nI (100 * k_at tx f + 10 * k_at tx (f + 1) + k_at tx (f + 2) - 5328))] : List Value) = _; rw [show k_klo (3 + 1) = 1 from rfl]) ?_
                        refine q_icmp_lt C dX5_firstNoDigit_77 80 89 rfl (by decide) (nI_ltI (by omega) (by omega)) (fun h77 => False.elim (by first | omega | simp_all)) (fun h77 => ?_)
                        refine q_iload C dX5_firstNoDigit_80 82 0 rfl rfl ?_
                        refine q_aload_n C dX5_firstNoDigit_82 83 5 rfl rfl ?_
                        refine q_getoN C (q_khi (q_kc hKs C) (i := 3) (by omega)) f84 (fun _ h => h) dX5_firstNoDigit_83 86 rfl ?_
                        refine q_eqs (st' := [.int (nI 99), .int (nI (100 * k_at tx f + 10 * k_at tx (f + 1) + k_at tx (f + 2) - 5328))]) (by show ([.int (k_khi (3 + 1)), .int (nI (100 * k_at tx f + 10 * k_at tx (f + 1) + k_at tx (f + 2) - 5328))] : List Value) = _; rw [show k_khi (3 + 1) = nI 99 from rfl]) ?_
                        refine q_icmp_le C dX5_firstNoDigit_86 89 92 rfl (by decide) (nI_leI (by omega) (by omega)) (fun h86 => False.elim (by first | omega | simp_all)) (fun h86 => ?_)
                        refine q_iload C dX5_firstNoDigit_89 91 3 rfl rfl ?_
                        exact q_iret C B dX5_firstNoDigit_91 rfl rfl (fun t0 ht0 => ⟨by rw [show k_rs tx (3 + 1) f = k_dw tx 1 99 f from rfl, show f + k_dw tx 1 99 f = f + 2 by unfold k_dw; (repeat' split) <;> omega], rfl⟩)

set_option maxHeartbeats 400000 in
set_option maxRecDepth 100000 in
theorem c_X5_firstMisfitFor (l : Launch) {D : va_G} {tys : List (ClassId × FieldType)} {Z : (Nat → Prop) → State → Heap → Prop} (hZ : q_St Z) {cI : ClassId} (hI : tys[0]? = some (cI, .int)) (hN : q_Ns Z) {ad aw av : Nat → Nat} {tK : Nat} (hKs : q_Ks Z ad aw av tK) (h0 : Nat) (tx : List Nat) (w : va_W) (h : k_isT cI h0 tx w) (i : Nat) (sa : Nat) (e : Nat) (hi5 : i < 5) (hae : sa ≤ e) (hel : e ≤ tx.length) (hblk : k_blk tx e) : q_Ct l D tys Z yX5_firstMisfitFor wsX5_firstMisfitFor ({ frames := 5, cells := 0, slots := 0, locals := 162 } : Room) 0 0 [.ref h0, .ref ((ad i)), .int (nI sa), .int (nI e)] [w] (fun v0 R0 _ => v0 = some (.int (nI (k_mf tx (i + 1) sa))) ∧ R0 = [w]) := by
  have hcI := hI
  refine q_ct (cc := cX5_firstMisfitFor) (maxL := 6) (ret := (some .int)) (own := RX5) (by decide) rfl hZ (Nat.le_of_ble_eq_true rfl) rfl ?_
  intro p9 e9 R s9 m9 args below meth c9 A Q C B
  have hts := C.2.2.2.2.1
  have f53 := q_nsb hN C (by decide +kernel : Cond.fieldLinkNest "SortCases$Text" 53 "SortCases$PartKind" "word" "Ljava/lang/String;" "SortCases" ∈ q_nest) rfl
  have f66 := q_nsb hN C (by decide +kernel : Cond.fieldLinkNest "SortCases$Text" 66 "SortCases$PartKind" "mostLetters" "I" "SortCases" ∈ q_nest) rfl
  refine q_eqL (L' := [(0, .ref h0), (1, .ref ((ad i))), (2, .int (nI sa)), (3, .int (nI e))]) rfl ?_
  have htl := h.1.1
  have hL5 := q_kL5 (i := i) hi5
  refine q_aload_n C dX5_firstMisfitFor_0 1 1 rfl rfl ?_
  refine q_getoN C (q_kwd (q_kc hKs C) (i := i) (by omega)) f53 (fun _ h => h) dX5_firstMisfitFor_1 4 rfl ?_
  refine q_callVA (n := 0) (rest := []) (Rr := [w]) C (q_kwo (q_kc hKs C) (i := i) (by omega)) (c_J0_length_8abf5 l hZ hI hKs i (by omega)) gX5_firstMisfitFor_J0_length_8abf5 rfl rfl rfl (by decide +kernel) B.1 ⟨Nat.le_of_ble_eq_true rfl, Nat.le_of_ble_eq_true rfl⟩ rfl rfl (Nat.le_of_ble_eq_true rfl) dX5_firstMisfitFor_4 ⟨(Nat.le_of_ble_eq_true rfl), (Nat.le_of_ble_eq_true rfl)⟩ [] [0] (by decide : ([] ++ ([0] : List Nat)).Perm (List.range 1)) rfl rfl 7 rfl (fun v0 R0 t0 ht0 hp0 => ?_)
  obtain ⟨rfl, rfl⟩ := hp0
  refine q_eqs (st' := [.int (nI ((k_wo (i + 1)).length))]) rfl ?_
  refine q_eqR (Rs' := [w]) rfl ?_
  refine q_istore C dX5_firstMisfitFor_7 9 rfl [(4, .int (nI ((k_wo (i + 1)).length))), (0, .ref h0), (1, .ref ((ad i))), (2, .int (nI sa)), (3, .int (nI e))] (by decide) rfl ?_
  refine q_iconst (v := nI 0) C dX5_firstMisfitFor_9 10 rfl (by decide) ?_
  refine q_istore C dX5_firstMisfitFor_10 12 rfl [(5, .int (nI 0)), (4, .int (nI ((k_wo (i + 1)).length))), (0, .ref h0), (1, .ref ((ad i))), (2, .int (nI sa)), (3, .int (nI e))] (by decide) rfl ?_
  have lp : ∀ (kk : Nat) (j : Nat), (k_wo (i + 1)).length - j < kk → ∀ (hj : j ≤ (k_wo (i + 1)).length), ∀ (hje : sa + j ≤ e), ∀ (hpw : ∀ u, u < j → k_sg tx (sa + u) = (k_wo (i + 1)).getD u 0), q_V p9 l e9 R s9 m9 args below meth c9 D A 6 Q 0 0 12 [(5, .int (nI j)), (0, .ref h0), (1, .ref ((ad i))), (2, .int (nI sa)), (3, .int (nI e)), (4, .int (nI ((k_wo (i + 1)).length)))] [] [w] := by
    intro kk
    induction kk with
    | zero => intro j hkk; exact absurd hkk (Nat.not_lt_zero _)
    | succ kk ih_lp =>
      intro j hkk hj hje hpw
      have hwc := fun (hz : j < (k_wo (i + 1)).length) => k_wc1_33 i (by omega) j hz
      have hwd : k_wc1 i j = (k_wo (i + 1)).getD j 0 := rfl
      refine q_iload C dX5_firstMisfitFor_12 14 0 rfl rfl ?_
      refine q_iload C dX5_firstMisfitFor_14 16 5 rfl rfl ?_
      refine q_icmp_ge C dX5_firstMisfitFor_16 19 58 rfl (by decide) (nI_leI (by omega) (by omega)) (fun h16 => ?_) (fun h16 => ?_)
      · have hm60 := k_ml_60 hi5
        have hall := k_mf_all (tx := tx) (K := i + 1) (a := sa) (n := j) (by omega) hpw
        have hjl : j = (k_wo (i + 1)).length := by omega
        refine q_iload_n C dX5_firstMisfitFor_58 59 3 rfl rfl ?_
        refine q_iload C dX5_firstMisfitFor_59 61 5 rfl rfl ?_
        refine q_iadd (v := nI (sa + (k_wo (i + 1)).length)) C dX5_firstMisfitFor_61 62 rfl (q_nadd (by omega)) ?_
        refine q_istore C dX5_firstMisfitFor_62 64 rfl [(5, .int (nI (sa + (k_wo (i + 1)).length))), (0, .ref h0), (1, .ref ((ad i))), (2, .int (nI sa)), (3, .int (nI e)), (4, .int (nI ((k_wo (i + 1)).length)))] (by decide) rfl ?_
        refine q_aload_n C dX5_firstMisfitFor_64 65 2 rfl rfl ?_
        refine q_getoN C (q_kml (q_kc hKs C) (i := i) (by omega)) f66 (fun _ h => h) dX5_firstMisfitFor_65 68 rfl ?_
        refine q_if_le C dX5_firstMisfitFor_68 71 82 rfl (by decide) (q_le0 (by omega)) (fun h68 => ?_) (fun h68 => ?_)
        · refine q_aload_n C dX5_firstMisfitFor_82 83 1 rfl rfl ?_
          refine q_aload_n C dX5_firstMisfitFor_83 84 2 rfl rfl ?_
          refine q_iload C dX5_firstMisfitFor_84 86 0 rfl rfl ?_
          refine q_iload_n C dX5_firstMisfitFor_86 87 4 rfl rfl ?_
          refine q_callV (k := 0) (ci := 4) (n := 3) (rest := []) (Rr := []) C rfl (k_isT_recv h) rfl (c_X5_firstNoDigit l hZ hI hN hKs h0 tx w h i (sa + (k_wo (i + 1)).length) e (by omega) (by omega) (by omega) (by omega) hblk) gX5_firstMisfitFor_X5_firstNoDigit rfl rfl rfl (by decide +kernel) B.1 ⟨Nat.le_of_ble_eq_true rfl, Nat.le_of_ble_eq_true rfl⟩ rfl rfl (Nat.le_of_ble_eq_true rfl) dX5_firstMisfitFor_87 ⟨(Nat.le_of_ble_eq_true rfl), (Nat.le_of_ble_eq_true rfl)⟩ [0] [] (by decide : ([0] ++ ([] : List Nat)).Perm (List.range 1)) rfl rfl 90 rfl (fun v0 R0 t0 ht0 hp0 => ?_)
          obtain ⟨rfl, rfl⟩ := hp0
          refine q_eqs (st' := [.int (nI (sa + (k_wo (i + 1)).length + k_rs tx (i + 1) (sa + (k_wo (i + 1)).length)))]) rfl ?_
          refine q_eqR (Rs' := [w]) rfl ?_
          exact q_iret C B dX5_firstMisfitFor_90 rfl rfl (fun t0 ht0 => ⟨by rw [hall, hjl], rfl⟩)
        · refine q_aload_n C dX5_firstMisfitFor_71 72 1 rfl rfl ?_
          refine q_aload_n C dX5_firstMisfitFor_72 73 2 rfl rfl ?_
          refine q_iload C dX5_firstMisfitFor_73 75 0 rfl rfl ?_
          refine q_iload_n C dX5_firstMisfitFor_75 76 4 rfl rfl ?_
          refine q_callV (k := 0) (ci := 4) (n := 3) (rest := []) (Rr := []) C rfl (k_isT_recv h) rfl (c_X5_firstNoLetter l hZ hI hN hKs h0 tx w h i (sa + (k_wo (i + 1)).length) e (by omega) (by omega) (by omega) hblk) gX5_firstMisfitFor_X5_firstNoLetter rfl rfl rfl (by decide +kernel) B.1 ⟨Nat.le_of_ble_eq_true rfl, Nat.le_of_ble_eq_true rfl⟩ rfl rfl (Nat.le_of_ble_eq_true rfl) dX5_firstMisfitFor_76 ⟨(Nat.le_of_ble_eq_true rfl), (Nat.le_of_ble_eq_true rfl)⟩ [0] [] (by decide : ([0] ++ ([] : List Nat)).Perm (List.range 1)) rfl rfl 79 rfl (fun v0 R0 t0 ht0 hp0 => ?_)
          obtain ⟨rfl, rfl⟩ := hp0
          refine q_eqs (st' := [.int (nI (sa + (k_wo (i + 1)).length + k_lw tx (k_ml (i + 1)) (sa + (k_wo (i + 1)).length)))]) rfl ?_
          refine q_eqR (Rs' := [w]) rfl ?_
          refine q_goto C dX5_firstMisfitFor_79 90 (by decide) ?_
          exact q_iret C B dX5_firstMisfitFor_90 rfl rfl (fun t0 ht0 => ⟨by rw [hall, k_rs_l (by omega) hi5, hjl], rfl⟩)
      · refine q_iload_n C dX5_firstMisfitFor_19 20 3 rfl rfl ?_
        refine q_iload C dX5_firstMisfitFor_20 22 0 rfl rfl ?_
        refine q_iadd (v := nI (sa + j)) C dX5_firstMisfitFor_22 23 rfl (q_nadd (by omega)) ?_
        refine q_iload_n C dX5_firstMisfitFor_23 24 4 rfl rfl ?_
        refine q_icmp_ge C dX5_firstMisfitFor_24 27 47 rfl (by decide) (nI_leI (by omega) (by omega)) (fun h24 => ?_) (fun h24 => ?_)
        · have hwc1 := hwc (by omega)
          refine q_iload_n C dX5_firstMisfitFor_47 48 3 rfl rfl ?_
          refine q_iload C dX5_firstMisfitFor_48 50 0 rfl rfl ?_
          refine q_iadd (v := nI (sa + j)) C dX5_firstMisfitFor_50 51 rfl (q_nadd (by omega)) ?_
          exact q_iret C B dX5_firstMisfitFor_51 rfl rfl (fun t0 ht0 => ⟨by rw [k_mf_stop (K := i + 1) hpw (by omega) (by rw [show sa + j = e by omega]; intro z; rcases hblk with z1 | z1 <;> omega)], rfl⟩)
        · have hg := k_sg_in (tx := tx) (i := sa + j) (by omega)
          have hwc1 := hwc (by omega)
          refine q_aload_n C dX5_firstMisfitFor_27 28 1 rfl rfl ?_
          refine q_iload_n C dX5_firstMisfitFor_28 29 3 rfl rfl ?_
          refine q_iload C dX5_firstMisfitFor_29 31 0 rfl rfl ?_
          refine q_iadd (v := nI (sa + j)) C dX5_firstMisfitFor_31 32 rfl (q_nadd (by omega)) ?_
          refine q_callV (k := 0) (ci := 4) (n := 1) (rest := []) (Rr := []) C rfl (k_isT_recv h) rfl (c_X5_codeAt l hZ hI h0 tx w h (sa + j) (by omega)) gX5_firstMisfitFor_X5_codeAt rfl rfl rfl (by decide +kernel) B.1 ⟨Nat.le_of_ble_eq_true rfl, Nat.le_of_ble_eq_true rfl⟩ rfl rfl (Nat.le_of_ble_eq_true rfl) dX5_firstMisfitFor_32 ⟨(Nat.le_of_ble_eq_true rfl), (Nat.le_of_ble_eq_true rfl)⟩ [0] [] (by decide : ([0] ++ ([] : List Nat)).Perm (List.range 1)) rfl rfl 35 rfl (fun v0 R0 t0 ht0 hp0 => ?_)
          obtain ⟨rfl, rfl⟩ := hp0
          refine q_eqs (st' := [.int (nI (k_at tx (sa + j)))]) rfl ?_
          refine q_eqR (Rs' := [w]) rfl ?_
          have hc32 : k_at tx (sa + j) ≤ 126 := (k_at_le h.1.2 (by omega)).2
          have hd32 : 33 ≤ k_at tx (sa + j) := (k_at_le h.1.2 (by omega)).1
          refine q_aload_n C dX5_firstMisfitFor_35 36 2 rfl rfl ?_
          refine q_getoN C (q_kwd (q_kc hKs C) (i := i) (by omega)) f53 (fun _ h => h) dX5_firstMisfitFor_36 39 rfl ?_
          refine q_iload C dX5_firstMisfitFor_39 41 0 rfl rfl ?_
          refine q_callVA (n := 1) (rest := [.int (nI (k_at tx (sa + j)))]) (Rr := [w]) C (q_kwo (q_kc hKs C) (i := i) (by omega)) (c_J0_charAt_5068e l hZ hI hKs i j (by omega) (by omega)) gX5_firstMisfitFor_J0_charAt_5068e rfl rfl rfl (by decide +kernel) B.1 ⟨Nat.le_of_ble_eq_true rfl, Nat.le_of_ble_eq_true rfl⟩ rfl rfl (Nat.le_of_ble_eq_true rfl) dX5_firstMisfitFor_41 ⟨(Nat.le_of_ble_eq_true rfl), (Nat.le_of_ble_eq_true rfl)⟩ [] [0] (by decide : ([] ++ ([0] : List Nat)).Perm (List.range 1)) rfl rfl 44 rfl (fun v0 R0 t0 ht0 hp0 => ?_)
          obtain ⟨rfl, rfl⟩ := hp0
          refine q_eqs (st' := [.int (nI ((k_wc1 i j))), .int (nI (k_at tx (sa + j)))]) rfl ?_
          refine q_eqR (Rs' := [w]) rfl ?_
          refine q_icmp_eq C dX5_firstMisfitFor_44 47 52 rfl (by decide) (nI_eq (by omega) (by omega)) (fun h44 => ?_) (fun h44 => ?_)
          · have heq : k_sg tx (sa + j) = (k_wo (i + 1)).getD j 0 := by rw [← hwd]; omega
            refine q_iinc (v := nI (j + 1)) C dX5_firstMisfitFor_52 55 0 rfl rfl (q_ninc1 (by omega)) [(5, .int (nI (j + 1))), (0, .ref h0), (1, .ref ((ad i))), (2, .int (nI sa)), (3, .int (nI e)), (4, .int (nI ((k_wo (i + 1)).length)))] (by decide) rfl ?_
            refine q_goto C dX5_firstMisfitFor_55 12 (by decide) ?_
            refine q_sub (L' := [(5, .int (nI (j + 1))), (0, .ref h0), (1, .ref ((ad i))), (2, .int (nI sa)), (3, .int (nI e)), (4, .int (nI ((k_wo (i + 1)).length)))]) [0, 1, 2, 3, 4, 5] rfl ?_
            exact ih_lp (j + 1) (by omega) (by omega) (by omega) (fun u hu => (Decidable.em (u = j)).elim (fun z => by subst z; exact heq) (fun z => hpw u (by omega)))
          · have hne : ¬ k_sg tx (sa + j) = (k_wo (i + 1)).getD j 0 := by rw [← hwd]; omega
            refine q_iload_n C dX5_firstMisfitFor_47 48 3 rfl rfl ?_
            refine q_iload C dX5_firstMisfitFor_48 50 0 rfl rfl ?_
            refine q_iadd (v := nI (sa + j)) C dX5_firstMisfitFor_50 51 rfl (q_nadd (by omega)) ?_
            exact q_iret C B dX5_firstMisfitFor_51 rfl rfl (fun t0 ht0 => ⟨by rw [k_mf_stop (K := i + 1) hpw (by omega) hne], rfl⟩)
  refine q_sub (L' := [(5, .int (nI 0)), (0, .ref h0), (1, .ref ((ad i))), (2, .int (nI sa)), (3, .int (nI e)), (4, .int (nI ((k_wo (i + 1)).length)))]) [0, 2, 3, 4, 5, 1] rfl ?_
  exact lp _ 0 (Nat.lt_succ_self _) (by omega) (by omega) (fun u hu => absurd hu (Nat.not_lt_zero u))

set_option maxHeartbeats 400000 in
set_option maxRecDepth 100000 in
theorem c_X5_kindOf_a (l : Launch) {D : va_G} {tys : List (ClassId × FieldType)} {Z : (Nat → Prop) → State → Heap → Prop} (hZ : q_St Z) {cI : ClassId} (hI : tys[0]? = some (cI, .int)) (hN : q_Ns Z) {ad aw av : Nat → Nat} {tK : Nat} (hKs : q_Ks Z ad aw av tK) (h0 : Nat) (tx : List Nat) (w : va_W) (h : k_isT cI h0 tx w) (sa : Nat) (e : Nat) (hae : sa ≤ e) (hel : e ≤ tx.length) (hblk : k_blk tx e) (hok : k_okp tx sa = true) (hme : k_mx tx sa = e) : q_Ct l D tys Z yX5_kindOf wsX5_kindOf ({ frames := 6, cells := 0, slots := 0, locals := 192 } : Room) 0 0 [.ref h0, .int (nI sa), .int (nI e)] [w] (fun v0 R0 _ => v0 = some (.ref ((ad (k_kd tx sa - 1)))) ∧ R0 = [w]) := by
  have hcI := hI
  refine q_ct (cc := cX5_kindOf) (maxL := 7) (ret := (some (.object "SortCases$PartKind"))) (own := RX5) (by decide) rfl hZ (Nat.le_of_ble_eq_true rfl) rfl ?_
  intro p9 e9 R s9 m9 args below meth c9 A Q C B
  have hts := C.2.2.2.2.1
  have f35 := q_nsb hN C (by decide +kernel : Cond.fieldLinkNest "SortCases$Text" 35 "SortCases" "PART_KINDS" "[LSortCases$PartKind;" "SortCases" ∈ q_nest) rfl
  have f39 := q_nsb hN C (by decide +kernel : Cond.fieldLinkNest "SortCases$Text" 39 "SortCases$PartKind" "shortest" "I" "SortCases" ∈ q_nest) rfl
  refine q_eqL (L' := [(0, .ref h0), (1, .int (nI sa)), (2, .int (nI e))]) rfl ?_
  have htl := h.1.1
  have hkd := k_kd_lt tx sa
  have hko := k_kind_ok hok hme
  refine q_getsN (v := .ref tK) C (q_kc hKs C).2.2.2.1.1 f35 (fun _ h => h) dX5_kindOf_0 3 rfl ?_
  refine q_astore_n C dX5_kindOf_3 4 rfl [(3, .ref tK), (0, .ref h0), (1, .int (nI sa)), (2, .int (nI e))] (by decide) rfl ?_
  refine q_aload_n C dX5_kindOf_4 5 0 rfl rfl ?_
  refine q_tlen C (q_kc hKs C).2.2.2.1.2 (v := nI 5) rfl dX5_kindOf_5 6 rfl ?_
  refine q_istore C dX5_kindOf_6 8 rfl [(4, .int (nI 5)), (3, .ref tK), (0, .ref h0), (1, .int (nI sa)), (2, .int (nI e))] (by decide) rfl ?_
  refine q_iconst (v := nI 0) C dX5_kindOf_8 9 rfl (by decide) ?_
  refine q_istore C dX5_kindOf_9 11 rfl [(5, .int (nI 0)), (4, .int (nI 5)), (3, .ref tK), (0, .ref h0), (1, .int (nI sa)), (2, .int (nI e))] (by decide) rfl ?_
  have lp : ∀ (kk : Nat) (x : Nat), 5 - x < kk → ∀ (hxk : x < k_kd tx sa), q_V p9 l e9 R s9 m9 args below meth c9 D A 7 Q 0 0 11 [(5, .int (nI x)), (0, .ref h0), (1, .int (nI sa)), (2, .int (nI e)), (3, .ref tK), (4, .int (nI 5))] [] [w] := by
    intro kk
    induction kk with
    | zero => intro x hkk; exact absurd hkk (Nat.not_lt_zero _)
    | succ kk ih_lp =>
      intro x hkk hxk
      have hs7 := k_sho_7 (i := x) (by omega)
      refine q_iload C dX5_kindOf_11 13 0 rfl rfl ?_
      refine q_iload C dX5_kindOf_13 15 5 rfl rfl ?_
      refine q_icmp_ge C dX5_kindOf_15 18 56 rfl (by decide) (nI_leI (by omega) (by omega)) (fun h15 => False.elim (by first | omega | simp_all)) (fun h15 => ?_)
      refine q_aload_n C dX5_kindOf_18 19 4 rfl rfl ?_
      refine q_iload C dX5_kindOf_19 21 0 rfl rfl ?_
      refine q_tq C (q_kc hKs C).2.2.2.1.2 x rfl (by omega) (by decide) (v := .ref ((ad x))) rfl dX5_kindOf_21 22 rfl ?_
      refine q_astore C dX5_kindOf_22 24 rfl [(6, .ref ((ad x))), (5, .int (nI x)), (0, .ref h0), (1, .int (nI sa)), (2, .int (nI e)), (3, .ref tK), (4, .int (nI 5))] (by decide) rfl ?_
      refine q_iload_n C dX5_kindOf_24 25 4 rfl rfl ?_
      refine q_iload_n C dX5_kindOf_25 26 3 rfl rfl ?_
      refine q_isub (v := nI (e - sa)) C dX5_kindOf_26 27 rfl (q_nsub (by omega) (by omega)) ?_
      refine q_aload C dX5_kindOf_27 29 0 rfl rfl ?_
      refine q_getoN C (q_ksho (q_kc hKs C) (i := x) (by omega)) f39 (fun _ h => h) dX5_kindOf_29 32 rfl ?_
      refine q_icmp_lt C dX5_kindOf_32 35 50 rfl (by decide) (nI_ltI (by omega) (by omega)) (fun h32 => ?_) (fun h32 => ?_)
      · refine q_iinc (v := nI (x + 1)) C dX5_kindOf_50 53 1 rfl rfl (q_ninc1 (by omega)) [(5, .int (nI (x + 1))), (6, .ref ((ad x))), (0, .ref h0), (1, .int (nI sa)), (2, .int (nI e)), (3, .ref tK), (4, .int (nI 5))] (by decide) rfl ?_
        refine q_goto C dX5_kindOf_53 11 (by decide) ?_
        refine q_sub (L' := [(5, .int (nI (x + 1))), (0, .ref h0), (1, .int (nI sa)), (2, .int (nI e)), (3, .ref tK), (4, .int (nI 5))]) [0, 2, 3, 4, 5, 6] rfl ?_
        exact ih_lp (x + 1) (by omega) (k_kind_next hko hxk (fun z => by omega))
      · refine q_aload_n C dX5_kindOf_35 36 2 rfl rfl ?_
        refine q_aload C dX5_kindOf_36 38 0 rfl rfl ?_
        refine q_iload_n C dX5_kindOf_38 39 3 rfl rfl ?_
        refine q_iload_n C dX5_kindOf_39 40 4 rfl rfl ?_
        refine q_callV (k := 0) (ci := 4) (n := 3) (rest := []) (Rr := []) C rfl (k_isT_recv h) rfl (c_X5_firstMisfitFor l hZ hI hN hKs h0 tx w h x sa e (by omega) (by omega) (by omega) hblk) gX5_kindOf_X5_firstMisfitFor rfl rfl rfl (by decide +kernel) B.1 ⟨Nat.le_of_ble_eq_true rfl, Nat.le_of_ble_eq_true rfl⟩ rfl rfl (Nat.le_of_ble_eq_true rfl) dX5_kindOf_40 ⟨(Nat.le_of_ble_eq_true rfl), (Nat.le_of_ble_eq_true rfl)⟩ [0] [] (by decide : ([0] ++ ([] : List Nat)).Perm (List.range 1)) rfl rfl 43 rfl (fun v0 R0 t0 ht0 hp0 => ?_)
        obtain ⟨rfl, rfl⟩ := hp0
        refine q_eqs (st' := [.int (nI (k_mf tx (x + 1) sa))]) rfl ?_
        refine q_eqR (Rs' := [w]) rfl ?_
        have hmf40 : k_mf tx (x + 1) sa ≤ e := k_mf_blk (by omega) (by omega) (by omega) hblk
        have hmg40 : sa ≤ k_mf tx (x + 1) sa := k_mf_ge _ _ _
        refine q_iload_n C dX5_kindOf_43 44 4 rfl rfl ?_
        refine q_icmp_ne C dX5_kindOf_44 47 50 rfl (by decide) (nI_eq (by omega) (by omega)) (fun h44 => ?_) (fun h44 => ?_)
        · refine q_iinc (v := nI (x + 1)) C dX5_kindOf_50 53 1 rfl rfl (q_ninc1 (by omega)) [(5, .int (nI (x + 1))), (6, .ref ((ad x))), (0, .ref h0), (1, .int (nI sa)), (2, .int (nI e)), (3, .ref tK), (4, .int (nI 5))] (by decide) rfl ?_
          refine q_goto C dX5_kindOf_53 11 (by decide) ?_
          refine q_sub (L' := [(5, .int (nI (x + 1))), (0, .ref h0), (1, .int (nI sa)), (2, .int (nI e)), (3, .ref tK), (4, .int (nI 5))]) [0, 2, 3, 4, 5, 6] rfl ?_
          exact ih_lp (x + 1) (by omega) (k_kind_next hko hxk (fun z => by omega))
        · refine q_aload C dX5_kindOf_47 49 0 rfl rfl ?_
          exact q_aret C B (Or.inr ⟨_, rfl⟩) dX5_kindOf_49 rfl rfl (fun t0 ht0 => ⟨by rw [show k_kd tx sa - 1 = x by have := (k_kind_yes (tx := tx) (a := sa) (e := e) (x := x) (by omega) (by omega) (by omega)).1; omega], rfl⟩)
  refine q_sub (L' := [(5, .int (nI 0)), (0, .ref h0), (1, .int (nI sa)), (2, .int (nI e)), (3, .ref tK), (4, .int (nI 5))]) [0, 3, 4, 5, 2, 1] rfl ?_
  exact lp _ 0 (Nat.lt_succ_self _) (by omega)

set_option maxHeartbeats 400000 in
set_option maxRecDepth 100000 in
theorem c_X5_kindOf_b (l : Launch) {D : va_G} {tys : List (ClassId × FieldType)} {Z : (Nat → Prop) → State → Heap → Prop} (hZ : q_St Z) {cI : ClassId} (hI : tys[0]? = some (cI, .int)) (hN : q_Ns Z) {ad aw av : Nat → Nat} {tK : Nat} (hKs : q_Ks Z ad aw av tK) (h0 : Nat) (tx : List Nat) (w : va_W) (h : k_isT cI h0 tx w) (sa : Nat) (e : Nat) (hae : sa ≤ e) (hel : e ≤ tx.length) (hblk : k_blk tx e) (hno : ¬ (k_okp tx sa = true ∧ k_mx tx sa = e)) : q_Ct l D tys Z yX5_kindOf wsX5_kindOf ({ frames := 6, cells := 0, slots := 0, locals := 192 } : Room) 0 0 [.ref h0, .int (nI sa), .int (nI e)] [w] (fun v0 R0 _ => v0 = some (.null) ∧ R0 = [w]) := by
  have hcI := hI
  refine q_ct (cc := cX5_kindOf) (maxL := 7) (ret := (some (.object "SortCases$PartKind"))) (own := RX5) (by decide) rfl hZ (Nat.le_of_ble_eq_true rfl) rfl ?_
  intro p9 e9 R s9 m9 args below meth c9 A Q C B
  have hts := C.2.2.2.2.1
  have f35 := q_nsb hN C (by decide +kernel : Cond.fieldLinkNest "SortCases$Text" 35 "SortCases" "PART_KINDS" "[LSortCases$PartKind;" "SortCases" ∈ q_nest) rfl
  have f39 := q_nsb hN C (by decide +kernel : Cond.fieldLinkNest "SortCases$Text" 39 "SortCases$PartKind" "shortest" "I" "SortCases" ∈ q_nest) rfl
  refine q_eqL (L' := [(0, .ref h0), (1, .int (nI sa)), (2, .int (nI e))]) rfl ?_
  have htl := h.1.1
  have hkd := k_kd_lt tx sa
  refine q_getsN (v := .ref tK) C (q_kc hKs C).2.2.2.1.1 f35 (fun _ h => h) dX5_kindOf_0 3 rfl ?_
  refine q_astore_n C dX5_kindOf_3 4 rfl [(3, .ref tK), (0, .ref h0), (1, .int (nI sa)), (2, .int (nI e))] (by decide) rfl ?_
  refine q_aload_n C dX5_kindOf_4 5 0 rfl rfl ?_
  refine q_tlen C (q_kc hKs C).2.2.2.1.2 (v := nI 5) rfl dX5_kindOf_5 6 rfl ?_
  refine q_istore C dX5_kindOf_6 8 rfl [(4, .int (nI 5)), (3, .ref tK), (0, .ref h0), (1, .int (nI sa)), (2, .int (nI e))] (by decide) rfl ?_
  refine q_iconst (v := nI 0) C dX5_kindOf_8 9 rfl (by decide) ?_
  refine q_istore C dX5_kindOf_9 11 rfl [(5, .int (nI 0)), (4, .int (nI 5)), (3, .ref tK), (0, .ref h0), (1, .int (nI sa)), (2, .int (nI e))] (by decide) rfl ?_
  have lp : ∀ (kk : Nat) (x : Nat), 5 - x < kk → ∀ (hx : x ≤ 5), q_V p9 l e9 R s9 m9 args below meth c9 D A 7 Q 0 0 11 [(5, .int (nI x)), (0, .ref h0), (1, .int (nI sa)), (2, .int (nI e)), (3, .ref tK), (4, .int (nI 5))] [] [w] := by
    intro kk
    induction kk with
    | zero => intro x hkk; exact absurd hkk (Nat.not_lt_zero _)
    | succ kk ih_lp =>
      intro x hkk hx
      have hs7 := fun (z : x < 5) => k_sho_7 (i := x) z
      refine q_iload C dX5_kindOf_11 13 0 rfl rfl ?_
      refine q_iload C dX5_kindOf_13 15 5 rfl rfl ?_
      refine q_icmp_ge C dX5_kindOf_15 18 56 rfl (by decide) (nI_leI (by omega) (by omega)) (fun h15 => ?_) (fun h15 => ?_)
      · refine q_null C dX5_kindOf_56 57 rfl ?_
        exact q_aret C B (Or.inl rfl) dX5_kindOf_57 rfl rfl (fun t0 ht0 => ⟨rfl, rfl⟩)
      · refine q_aload_n C dX5_kindOf_18 19 4 rfl rfl ?_
        refine q_iload C dX5_kindOf_19 21 0 rfl rfl ?_
        refine q_tq C (q_kc hKs C).2.2.2.1.2 x rfl (by omega) (by decide) (v := .ref ((ad x))) rfl dX5_kindOf_21 22 rfl ?_
        have hs8 := hs7 (by omega)
        refine q_astore C dX5_kindOf_22 24 rfl [(6, .ref ((ad x))), (5, .int (nI x)), (0, .ref h0), (1, .int (nI sa)), (2, .int (nI e)), (3, .ref tK), (4, .int (nI 5))] (by decide) rfl ?_
        refine q_iload_n C dX5_kindOf_24 25 4 rfl rfl ?_
        refine q_iload_n C dX5_kindOf_25 26 3 rfl rfl ?_
        refine q_isub (v := nI (e - sa)) C dX5_kindOf_26 27 rfl (q_nsub (by omega) (by omega)) ?_
        refine q_aload C dX5_kindOf_27 29 0 rfl rfl ?_
        refine q_getoN C (q_ksho (q_kc hKs C) (i := x) (by omega)) f39 (fun _ h => h) dX5_kindOf_29 32 rfl ?_
        refine q_icmp_lt C dX5_kindOf_32 35 50 rfl (by decide) (nI_ltI (by omega) (by omega)) (fun h32 => ?_) (fun h32 => ?_)
        · refine q_iinc (v := nI (x + 1)) C dX5_kindOf_50 53 1 rfl rfl (q_ninc1 (by omega)) [(5, .int (nI (x + 1))), (6, .ref ((ad x))), (0, .ref h0), (1, .int (nI sa)), (2, .int (nI e)), (3, .ref tK), (4, .int (nI 5))] (by decide) rfl ?_
          refine q_goto C dX5_kindOf_53 11 (by decide) ?_
          refine q_sub (L' := [(5, .int (nI (x + 1))), (0, .ref h0), (1, .int (nI sa)), (2, .int (nI e)), (3, .ref tK), (4, .int (nI 5))]) [0, 2, 3, 4, 5, 6] rfl ?_
          exact ih_lp (x + 1) (by omega) (by omega)
        · refine q_aload_n C dX5_kindOf_35 36 2 rfl rfl ?_
          refine q_aload C dX5_kindOf_36 38 0 rfl rfl ?_
          refine q_iload_n C dX5_kindOf_38 39 3 rfl rfl ?_
          refine q_iload_n C dX5_kindOf_39 40 4 rfl rfl ?_
          refine q_callV (k := 0) (ci := 4) (n := 3) (rest := []) (Rr := []) C rfl (k_isT_recv h) rfl (c_X5_firstMisfitFor l hZ hI hN hKs h0 tx w h x sa e (by omega) (by omega) (by omega) hblk) gX5_kindOf_X5_firstMisfitFor rfl rfl rfl (by decide +kernel) B.1 ⟨Nat.le_of_ble_eq_true rfl, Nat.le_of_ble_eq_true rfl⟩ rfl rfl (Nat.le_of_ble_eq_true rfl) dX5_kindOf_40 ⟨(Nat.le_of_ble_eq_true rfl), (Nat.le_of_ble_eq_true rfl)⟩ [0] [] (by decide : ([0] ++ ([] : List Nat)).Perm (List.range 1)) rfl rfl 43 rfl (fun v0 R0 t0 ht0 hp0 => ?_)
          obtain ⟨rfl, rfl⟩ := hp0
          refine q_eqs (st' := [.int (nI (k_mf tx (x + 1) sa))]) rfl ?_
          refine q_eqR (Rs' := [w]) rfl ?_
          have hmf40 : k_mf tx (x + 1) sa ≤ e := k_mf_blk (by omega) (by omega) (by omega) hblk
          have hmg40 : sa ≤ k_mf tx (x + 1) sa := k_mf_ge _ _ _
          refine q_iload_n C dX5_kindOf_43 44 4 rfl rfl ?_
          refine q_icmp_ne C dX5_kindOf_44 47 50 rfl (by decide) (nI_eq (by omega) (by omega)) (fun h44 => ?_) (fun h44 => False.elim (hno (k_kind_yes (by omega) (by omega) h44).2))
          refine q_iinc (v := nI (x + 1)) C dX5_kindOf_50 53 1 rfl rfl (q_ninc1 (by omega)) [(5, .int (nI (x + 1))), (6, .ref ((ad x))), (0, .ref h0), (1, .int (nI sa)), (2, .int (nI e)), (3, .ref tK), (4, .int (nI 5))] (by decide) rfl ?_
          refine q_goto C dX5_kindOf_53 11 (by decide) ?_
          refine q_sub (L' := [(5, .int (nI (x + 1))), (0, .ref h0), (1, .int (nI sa)), (2, .int (nI e)), (3, .ref tK), (4, .int (nI 5))]) [0, 2, 3, 4, 5, 6] rfl ?_
          exact ih_lp (x + 1) (by omega) (by omega)
  refine q_sub (L' := [(5, .int (nI 0)), (0, .ref h0), (1, .int (nI sa)), (2, .int (nI e)), (3, .ref tK), (4, .int (nI 5))]) [0, 3, 4, 5, 2, 1] rfl ?_
  exact lp _ 0 (Nat.lt_succ_self _) (by omega)

set_option maxHeartbeats 400000 in
set_option maxRecDepth 100000 in
theorem c_X5_firstMisfitOfPart (l : Launch) {D : va_G} {tys : List (ClassId × FieldType)} {Z : (Nat → Prop) → State → Heap → Prop} (hZ : q_St Z) {cI : ClassId} (hI : tys[0]? = some (cI, .int)) (hN : q_Ns Z) {ad aw av : Nat → Nat} {tK : Nat} (hKs : q_Ks Z ad aw av tK) (h0 : Nat) (tx : List Nat) (w : va_W) (h : k_isT cI h0 tx w) (sa : Nat) (e : Nat) (hae : sa ≤ e) (hel : e ≤ tx.length) (hblk : k_blk tx e) : q_Ct l D tys Z yX5_firstMisfitOfPart wsX5_firstMisfitOfPart ({ frames := 6, cells := 0, slots := 0, locals := 192 } : Room) 0 0 [.ref h0, .int (nI sa), .int (nI e)] [w] (fun v0 R0 _ => v0 = some (.int (nI (k_mx tx sa))) ∧ R0 = [w]) := by
  have hcI := hI
  refine q_ct (cc := cX5_firstMisfitOfPart) (maxL := 8) (ret := (some .int)) (own := RX5) (by decide) rfl hZ (Nat.le_of_ble_eq_true rfl) rfl ?_
  intro p9 e9 R s9 m9 args below meth c9 A Q C B
  have hts := C.2.2.2.2.1
  have f35 := q_nsb hN C (by decide +kernel : Cond.fieldLinkNest "SortCases$Text" 35 "SortCases" "PART_KINDS" "[LSortCases$PartKind;" "SortCases" ∈ q_nest) rfl
  have mx0 := hts (.methodLink RX5 48 Lib.Math.max.name) (by decide +kernel)
  have mx1 := hts (.static Lib.Math.max.name) (by decide +kernel)
  have mx2 := hts (.initialized "java/lang/Math") (by decide +kernel)
  have mx3 := hts (.code Lib.Math.max.name Lib.Math.max.code 2 (some .int)) (by decide +kernel)
  refine q_eqL (L' := [(0, .ref h0), (1, .int (nI sa)), (2, .int (nI e))]) rfl ?_
  have htl := h.1.1
  have hkd := k_kd_lt tx sa
  have hmb := k_mx_blk hae hblk
  refine q_iload_n C dX5_firstMisfitOfPart_0 1 1 rfl rfl ?_
  refine q_istore_n C dX5_firstMisfitOfPart_1 2 rfl [(3, .int (nI sa)), (0, .ref h0), (1, .int (nI sa)), (2, .int (nI e))] (by decide) rfl ?_
  refine q_getsN (v := .ref tK) C (q_kc hKs C).2.2.2.1.1 f35 (fun _ h => h) dX5_firstMisfitOfPart_2 5 rfl ?_
  refine q_astore C dX5_firstMisfitOfPart_5 7 rfl [(4, .ref tK), (3, .int (nI sa)), (0, .ref h0), (1, .int (nI sa)), (2, .int (nI e))] (by decide) rfl ?_
  refine q_aload C dX5_firstMisfitOfPart_7 9 0 rfl rfl ?_
  refine q_tlen C (q_kc hKs C).2.2.2.1.2 (v := nI 5) rfl dX5_firstMisfitOfPart_9 10 rfl ?_
  refine q_istore C dX5_firstMisfitOfPart_10 12 rfl [(5, .int (nI 5)), (4, .ref tK), (3, .int (nI sa)), (0, .ref h0), (1, .int (nI sa)), (2, .int (nI e))] (by decide) rfl ?_
  refine q_iconst (v := nI 0) C dX5_firstMisfitOfPart_12 13 rfl (by decide) ?_
  refine q_istore C dX5_firstMisfitOfPart_13 15 rfl [(6, .int (nI 0)), (5, .int (nI 5)), (4, .ref tK), (3, .int (nI sa)), (0, .ref h0), (1, .int (nI sa)), (2, .int (nI e))] (by decide) rfl ?_
  have lp : ∀ (kk : Nat) (x : Nat), 5 - x < kk → ∀ (hx : x ≤ 5), q_V p9 l e9 R s9 m9 args below meth c9 D A 8 Q 0 0 15 [(6, .int (nI x)), (3, .int (nI ((k_mxu tx sa x)))), (0, .ref h0), (1, .int (nI sa)), (2, .int (nI e)), (4, .ref tK), (5, .int (nI 5))] [] [w] := by
    intro kk
    induction kk with
    | zero => intro x hkk; exact absurd hkk (Nat.not_lt_zero _)
    | succ kk ih_lp =>
      intro x hkk hx
      have hmu := k_mxu_le (tx := tx) (a := sa) hx
      refine q_iload C dX5_firstMisfitOfPart_15 17 0 rfl rfl ?_
      refine q_iload C dX5_firstMisfitOfPart_17 19 6 rfl rfl ?_
      refine q_icmp_ge C dX5_firstMisfitOfPart_19 22 48 rfl (by decide) (nI_leI (by omega) (by omega)) (fun h19 => ?_) (fun h19 => ?_)
      · refine q_iload_n C dX5_firstMisfitOfPart_48 49 1 rfl rfl ?_
        exact q_iret C B dX5_firstMisfitOfPart_49 rfl rfl (fun t0 ht0 => ⟨by rw [show x = 5 by omega, k_mxu_5], rfl⟩)
      · refine q_aload C dX5_firstMisfitOfPart_22 24 5 rfl rfl ?_
        refine q_iload C dX5_firstMisfitOfPart_24 26 0 rfl rfl ?_
        refine q_tq C (q_kc hKs C).2.2.2.1.2 x rfl (by omega) (by decide) (v := .ref ((ad x))) rfl dX5_firstMisfitOfPart_26 27 rfl ?_
        refine q_astore C dX5_firstMisfitOfPart_27 29 rfl [(7, .ref ((ad x))), (6, .int (nI x)), (3, .int (nI ((k_mxu tx sa x)))), (0, .ref h0), (1, .int (nI sa)), (2, .int (nI e)), (4, .ref tK), (5, .int (nI 5))] (by decide) rfl ?_
        refine q_iload_n C dX5_firstMisfitOfPart_29 30 2 rfl rfl ?_
        refine q_aload_n C dX5_firstMisfitOfPart_30 31 3 rfl rfl ?_
        refine q_aload C dX5_firstMisfitOfPart_31 33 0 rfl rfl ?_
        refine q_iload_n C dX5_firstMisfitOfPart_33 34 4 rfl rfl ?_
        refine q_iload_n C dX5_firstMisfitOfPart_34 35 5 rfl rfl ?_
        refine q_callV (k := 0) (ci := 4) (n := 3) (rest := [.int (nI ((k_mxu tx sa x)))]) (Rr := []) C rfl (k_isT_recv h) rfl (c_X5_firstMisfitFor l hZ hI hN hKs h0 tx w h x sa e (by omega) (by omega) (by omega) hblk) gX5_firstMisfitOfPart_X5_firstMisfitFor rfl rfl rfl (by decide +kernel) B.1 ⟨Nat.le_of_ble_eq_true rfl, Nat.le_of_ble_eq_true rfl⟩ rfl rfl (Nat.le_of_ble_eq_true rfl) dX5_firstMisfitOfPart_35 ⟨(Nat.le_of_ble_eq_true rfl), (Nat.le_of_ble_eq_true rfl)⟩ [0] [] (by decide : ([0] ++ ([] : List Nat)).Perm (List.range 1)) rfl rfl 38 rfl (fun v0 R0 t0 ht0 hp0 => ?_)
        obtain ⟨rfl, rfl⟩ := hp0
        refine q_eqs (st' := [.int (nI (k_mf tx (x + 1) sa)), .int (nI ((k_mxu tx sa x)))]) rfl ?_
        refine q_eqR (Rs' := [w]) rfl ?_
        have hmf35 : k_mf tx (x + 1) sa ≤ e := k_mf_blk (by omega) (by omega) (by omega) hblk
        have hmg35 : sa ≤ k_mf tx (x + 1) sa := k_mf_ge _ _ _
        refine q_mmax C mx0 mx1 mx2 mx3 B.1 (Nat.le_of_ble_eq_true rfl) (Nat.le_of_ble_eq_true rfl) (Nat.le_of_ble_eq_true rfl) (Nat.le_of_ble_eq_true rfl) dX5_firstMisfitOfPart_38 41 rfl (v := nI (max ((k_mxu tx sa x)) (k_mf tx (x + 1) sa))) (q_max2 (by omega) (by omega)) ?_
        refine q_istore_n C dX5_firstMisfitOfPart_41 42 rfl [(3, .int (nI (max ((k_mxu tx sa x)) (k_mf tx (x + 1) sa)))), (7, .ref ((ad x))), (6, .int (nI x)), (0, .ref h0), (1, .int (nI sa)), (2, .int (nI e)), (4, .ref tK), (5, .int (nI 5))] (by decide) rfl ?_
        refine q_iinc (v := nI (x + 1)) C dX5_firstMisfitOfPart_42 45 2 rfl rfl (q_ninc1 (by omega)) [(6, .int (nI (x + 1))), (3, .int (nI (max ((k_mxu tx sa x)) (k_mf tx (x + 1) sa)))), (7, .ref ((ad x))), (0, .ref h0), (1, .int (nI sa)), (2, .int (nI e)), (4, .ref tK), (5, .int (nI 5))] (by decide) rfl ?_
        refine q_goto C dX5_firstMisfitOfPart_45 15 (by decide) ?_
        refine q_sub (L' := [(6, .int (nI (x + 1))), (3, .int (nI (max ((k_mxu tx sa x)) (k_mf tx (x + 1) sa)))), (0, .ref h0), (1, .int (nI sa)), (2, .int (nI e)), (4, .ref tK), (5, .int (nI 5))]) [0, 1, 3, 4, 5, 6, 7] rfl ?_
        exact ih_lp (x + 1) (by omega) (by omega)
  refine q_sub (L' := [(6, .int (nI 0)), (3, .int (nI sa)), (0, .ref h0), (1, .int (nI sa)), (2, .int (nI e)), (4, .ref tK), (5, .int (nI 5))]) [0, 3, 4, 5, 6, 2, 1] rfl ?_
  exact lp _ 0 (Nat.lt_succ_self _) (by omega)

set_option maxHeartbeats 400000 in
set_option maxRecDepth 100000 in
theorem c_X5_isWhole (l : Launch) {D : va_G} {tys : List (ClassId × FieldType)} {Z : (Nat → Prop) → State → Heap → Prop} (hZ : q_St Z) {cI : ClassId} (hI : tys[0]? = some (cI, .int)) (hN : q_Ns Z) {ad aw av : Nat → Nat} {tK : Nat} (hKs : q_Ks Z ad aw av tK) (h0 : Nat) (tx : List Nat) (w : va_W) (h : k_isT cI h0 tx w) : q_Ct l D tys Z yX5_isWhole wsX5_isWhole ({ frames := 7, cells := 0, slots := 0, locals := 222 } : Room) 0 0 [.ref h0] [w] (fun v0 R0 _ => v0 = some (.int (q_b ((k_fr tx 61 0).2))) ∧ R0 = [w]) := by
  have hcI := hI
  refine q_ct (cc := cX5_isWhole) (maxL := 3) (ret := (some .boolean)) (own := RX5) (by decide) rfl hZ (Nat.le_of_ble_eq_true rfl) rfl ?_
  intro p9 e9 R s9 m9 args below meth c9 A Q C B
  have hts := C.2.2.2.2.1
  have hinX5 : ∀ w ∈ u_ws RX5 TX5 2, w ∈ wsX5_isWhole := by decide +kernel
  have f15 := hts (.fieldLink RX5 15 "SortCases$Text" "length" "I") (by decide +kernel)
  refine q_eqL (L' := [(0, .ref h0)]) rfl ?_
  have htl := h.1.1
  have hiw0 := k_Iw_0 tx
  generalize k_fr tx 61 0 = F at B hiw0
  refine q_iconst (v := nI 0) C dX5_isWhole_0 1 rfl (by decide) ?_
  refine q_istore_n C dX5_isWhole_1 2 rfl [(1, .int (nI 0)), (0, .ref h0)] (by decide) rfl ?_
  refine q_iconst (v := nI 0) C dX5_isWhole_2 3 rfl (by decide) ?_
  refine q_istore_n C dX5_isWhole_3 4 rfl [(2, .int (nI 0)), (1, .int (nI 0)), (0, .ref h0)] (by decide) rfl ?_
  have lp : ∀ (kk : Nat) (st : Nat) (m : Nat) (x : Nat), tx.length + 1 - x < kk → ∀ (hx : x ≤ tx.length + 1), ∀ (hiw : k_Iw tx F st m x), q_V p9 l e9 R s9 m9 args below meth c9 D A 3 Q 0 0 4 [(2, .int (nI x)), (1, .int (nI st)), (0, .ref h0)] [] [w] := by
    intro kk
    induction kk with
    | zero => intro st m x hkk; exact absurd hkk (Nat.not_lt_zero _)
    | succ kk ih_lp =>
      intro st m x hkk hx hiw
      refine q_iload_n C dX5_isWhole_4 5 0 rfl rfl ?_
      refine q_aload_n C dX5_isWhole_5 6 2 rfl rfl ?_
      obtain ⟨htkx1, hcx1, ftx1, htrx1, rfl⟩ := h
      have htlx1 := htkx1.1
      have hTox1 : k_isT cI h0 tx [(h0, .inr (4, [.ref hcx1, .int (nI tx.length)])), (hcx1, .inl (cI, 60, .inl ftx1))] := ⟨htkx1, hcx1, ftx1, htrx1, rfl⟩
      refine q_get (k := 0) (j := 0) (f := 1) C hinX5 f15 (fun _ h => h) (by decide) rfl dX5_isWhole_6 9 rfl rfl rfl rfl ?_
      refine q_icmp_gt C dX5_isWhole_9 12 41 rfl (by decide) (nI_ltI (by omega) (by omega)) (fun h9 => ?_) (fun h9 => ?_)
      · refine q_iconst (v := nI 1) C dX5_isWhole_41 42 rfl (by decide) ?_
        exact q_zret C B (by decide) dX5_isWhole_42 rfl rfl (fun t0 ht0 => ⟨by rw [k_Iw_t hiw (by omega)]; rfl, rfl⟩)
      · have hst := k_Iw_st hiw (by omega)
        refine q_aload_n C dX5_isWhole_12 13 2 rfl rfl ?_
        refine q_iload_n C dX5_isWhole_13 14 0 rfl rfl ?_
        refine q_callV (k := 0) (ci := 4) (n := 1) (rest := []) (Rr := []) C rfl (k_isT_recv hTox1) rfl (c_X5_isPartEnd l hZ hI h0 tx ([(h0, .inr (4, [.ref hcx1, .int (nI tx.length)])), (hcx1, .inl (cI, 60, .inl ftx1))]) hTox1 x (by omega)) gX5_isWhole_X5_isPartEnd rfl rfl rfl (by decide +kernel) B.1 ⟨Nat.le_of_ble_eq_true rfl, Nat.le_of_ble_eq_true rfl⟩ rfl rfl (Nat.le_of_ble_eq_true rfl) dX5_isWhole_14 ⟨(Nat.le_of_ble_eq_true rfl), (Nat.le_of_ble_eq_true rfl)⟩ [0] [] (by decide : ([0] ++ ([] : List Nat)).Perm (List.range 1)) rfl rfl 17 rfl (fun v0 R0 t0 ht0 hp0 => ?_)
        obtain ⟨rfl, rfl⟩ := hp0
        refine q_eqs (st' := [.int (q_b (decide (x = (tx).length ∨ k_sg tx x = 59)))]) rfl ?_
        refine q_eqR (Rs' := [[(h0, .inr (4, [.ref hcx1, .int (nI tx.length)])), (hcx1, .inl (cI, 60, .inl ftx1))]]) rfl ?_
        refine q_if_eq (P := ¬ (x = (tx).length ∨ k_sg tx x = 59)) C dX5_isWhole_17 20 35 rfl (by decide) q_bd0 (fun h17 => ?_) (fun h17 => ?_)
        · have hnend := h17
          refine q_iinc (v := nI (x + 1)) C dX5_isWhole_35 38 0 rfl rfl (q_ninc1 (by omega)) [(2, .int (nI (x + 1))), (1, .int (nI st)), (0, .ref h0)] (by decide) rfl ?_
          refine q_goto C dX5_isWhole_38 4 (by decide) ?_
          refine q_sub (L' := [(2, .int (nI (x + 1))), (1, .int (nI st)), (0, .ref h0)]) [0, 1, 2] rfl ?_
          exact ih_lp st m (x + 1) (by omega) (by omega) (k_Iw_n hiw (by omega) hnend)
        · have hend := Decidable.not_not.mp h17
          have hblk := k_blk_end hend
          by_cases hk : k_okp tx st = true ∧ k_mx tx st = x
          · have hend := Decidable.not_not.mp h17
            have hblk := k_blk_end hend
            refine q_aload_n C dX5_isWhole_20 21 2 rfl rfl ?_
            refine q_iload_n C dX5_isWhole_21 22 1 rfl rfl ?_
            refine q_iload_n C dX5_isWhole_22 23 0 rfl rfl ?_
            refine q_callV (k := 0) (ci := 4) (n := 2) (rest := []) (Rr := []) C rfl (k_isT_recv hTox1) rfl (c_X5_kindOf_a l hZ hI hN hKs h0 tx ([(h0, .inr (4, [.ref hcx1, .int (nI tx.length)])), (hcx1, .inl (cI, 60, .inl ftx1))]) hTox1 st x (by omega) (by omega) hblk hk.1 hk.2) gX5_isWhole_X5_kindOf rfl rfl rfl (by decide +kernel) B.1 ⟨Nat.le_of_ble_eq_true rfl, Nat.le_of_ble_eq_true rfl⟩ rfl rfl (Nat.le_of_ble_eq_true rfl) dX5_isWhole_23 ⟨(Nat.le_of_ble_eq_true rfl), (Nat.le_of_ble_eq_true rfl)⟩ [0] [] (by decide : ([0] ++ ([] : List Nat)).Perm (List.range 1)) rfl rfl 26 rfl (fun v0 R0 t0 ht0 hp0 => ?_)
            obtain ⟨rfl, rfl⟩ := hp0
            refine q_eqs (st' := [.ref ((ad (k_kd tx st - 1)))]) rfl ?_
            refine q_eqR (Rs' := [[(h0, .inr (4, [.ref hcx1, .int (nI tx.length)])), (hcx1, .inl (cI, 60, .inl ftx1))]]) rfl ?_
            refine q_ifnonnull C dX5_isWhole_26 31 (by decide) ?_
            refine q_iload_n C dX5_isWhole_31 32 0 rfl rfl ?_
            refine q_iconst (v := nI 1) C dX5_isWhole_32 33 rfl (by decide) ?_
            refine q_iadd (v := nI (x + 1)) C dX5_isWhole_33 34 rfl (q_nadd (by omega)) ?_
            refine q_istore_n C dX5_isWhole_34 35 rfl [(1, .int (nI (x + 1))), (2, .int (nI x)), (0, .ref h0)] (by decide) rfl ?_
            refine q_iinc (v := nI (x + 1)) C dX5_isWhole_35 38 1 rfl rfl (q_ninc1 (by omega)) [(2, .int (nI (x + 1))), (1, .int (nI (x + 1))), (0, .ref h0)] (by decide) rfl ?_
            refine q_goto C dX5_isWhole_38 4 (by decide) ?_
            refine q_sub (L' := [(2, .int (nI (x + 1))), (1, .int (nI (x + 1))), (0, .ref h0)]) [0, 1, 2] rfl ?_
            exact ih_lp (x + 1) (m - 1) (x + 1) (by omega) (by omega) (k_Iw_y hiw (by omega) hend hk (by omega))
          · have hend := Decidable.not_not.mp h17
            have hblk := k_blk_end hend
            refine q_aload_n C dX5_isWhole_20 21 2 rfl rfl ?_
            refine q_iload_n C dX5_isWhole_21 22 1 rfl rfl ?_
            refine q_iload_n C dX5_isWhole_22 23 0 rfl rfl ?_
            refine q_callV (k := 0) (ci := 4) (n := 2) (rest := []) (Rr := []) C rfl (k_isT_recv hTox1) rfl (c_X5_kindOf_b l hZ hI hN hKs h0 tx ([(h0, .inr (4, [.ref hcx1, .int (nI tx.length)])), (hcx1, .inl (cI, 60, .inl ftx1))]) hTox1 st x (by omega) (by omega) hblk hk) gX5_isWhole_X5_kindOf rfl rfl rfl (by decide +kernel) B.1 ⟨Nat.le_of_ble_eq_true rfl, Nat.le_of_ble_eq_true rfl⟩ rfl rfl (Nat.le_of_ble_eq_true rfl) dX5_isWhole_23 ⟨(Nat.le_of_ble_eq_true rfl), (Nat.le_of_ble_eq_true rfl)⟩ [0] [] (by decide : ([0] ++ ([] : List Nat)).Perm (List.range 1)) rfl rfl 26 rfl (fun v0 R0 t0 ht0 hp0 => ?_)
            obtain ⟨rfl, rfl⟩ := hp0
            refine q_eqs (st' := [.null]) rfl ?_
            refine q_eqR (Rs' := [[(h0, .inr (4, [.ref hcx1, .int (nI tx.length)])), (hcx1, .inl (cI, 60, .inl ftx1))]]) rfl ?_
            refine q_ifnonnullN C dX5_isWhole_26 29 rfl ?_
            refine q_iconst (v := nI 0) C dX5_isWhole_29 30 rfl (by decide) ?_
            exact q_zret C B (by decide) dX5_isWhole_30 rfl rfl (fun t0 ht0 => ⟨by rw [k_Iw_f hiw (by omega) hblk hk]; rfl, rfl⟩)
  refine q_sub (L' := [(2, .int (nI 0)), (1, .int (nI 0)), (0, .ref h0)]) [0, 1, 2] rfl ?_
  exact lp _ 0 60 0 (Nat.lt_succ_self _) (by omega) hiw0

set_option maxHeartbeats 400000 in
set_option maxRecDepth 100000 in
theorem c_X5_firstMisfit (l : Launch) {D : va_G} {tys : List (ClassId × FieldType)} {Z : (Nat → Prop) → State → Heap → Prop} (hZ : q_St Z) {cI : ClassId} (hI : tys[0]? = some (cI, .int)) (hN : q_Ns Z) {ad aw av : Nat → Nat} {tK : Nat} (hKs : q_Ks Z ad aw av tK) (h0 : Nat) (tx : List Nat) (w : va_W) (h : k_isT cI h0 tx w) : q_Ct l D tys Z yX5_firstMisfit wsX5_firstMisfit ({ frames := 7, cells := 0, slots := 0, locals := 222 } : Room) 0 0 [.ref h0] [w] (fun v0 R0 _ => v0 = some (.int (nI ((k_fr tx 61 0).1))) ∧ R0 = [w]) := by
  have hcI := hI
  refine q_ct (cc := cX5_firstMisfit) (maxL := 3) (ret := (some .int)) (own := RX5) (by decide) rfl hZ (Nat.le_of_ble_eq_true rfl) rfl ?_
  intro p9 e9 R s9 m9 args below meth c9 A Q C B
  have hts := C.2.2.2.2.1
  have hinX5 : ∀ w ∈ u_ws RX5 TX5 2, w ∈ wsX5_firstMisfit := by decide +kernel
  have f15 := hts (.fieldLink RX5 15 "SortCases$Text" "length" "I") (by decide +kernel)
  refine q_eqL (L' := [(0, .ref h0)]) rfl ?_
  have htl := h.1.1
  have hiw0 := k_Iw_0 tx
  generalize k_fr tx 61 0 = F at B hiw0
  refine q_iconst (v := nI 0) C dX5_firstMisfit_0 1 rfl (by decide) ?_
  refine q_istore_n C dX5_firstMisfit_1 2 rfl [(1, .int (nI 0)), (0, .ref h0)] (by decide) rfl ?_
  refine q_iconst (v := nI 0) C dX5_firstMisfit_2 3 rfl (by decide) ?_
  refine q_istore_n C dX5_firstMisfit_3 4 rfl [(2, .int (nI 0)), (1, .int (nI 0)), (0, .ref h0)] (by decide) rfl ?_
  have lp : ∀ (kk : Nat) (st : Nat) (m : Nat) (x : Nat), tx.length - x < kk → ∀ (hx : x ≤ tx.length), ∀ (hiw : k_Iw tx F st m x), q_V p9 l e9 R s9 m9 args below meth c9 D A 3 Q 0 0 4 [(2, .int (nI x)), (1, .int (nI st)), (0, .ref h0)] [] [w] := by
    intro kk
    induction kk with
    | zero => intro st m x hkk; exact absurd hkk (Nat.not_lt_zero _)
    | succ kk ih_lp =>
      intro st m x hkk hx hiw
      have hst := k_Iw_st hiw (by omega)
      refine q_iload_n C dX5_firstMisfit_4 5 0 rfl rfl ?_
      refine q_aload_n C dX5_firstMisfit_5 6 2 rfl rfl ?_
      obtain ⟨htkx1, hcx1, ftx1, htrx1, rfl⟩ := h
      have htlx1 := htkx1.1
      have hTox1 : k_isT cI h0 tx [(h0, .inr (4, [.ref hcx1, .int (nI tx.length)])), (hcx1, .inl (cI, 60, .inl ftx1))] := ⟨htkx1, hcx1, ftx1, htrx1, rfl⟩
      refine q_get (k := 0) (j := 0) (f := 1) C hinX5 f15 (fun _ h => h) (by decide) rfl dX5_firstMisfit_6 9 rfl rfl rfl rfl ?_
      refine q_icmp_ge C dX5_firstMisfit_9 12 48 rfl (by decide) (nI_leI (by omega) (by omega)) (fun h9 => ?_) (fun h9 => ?_)
      · obtain rfl : x = tx.length := by omega
        have hblk := k_blk_end (tx := tx) (x := tx.length) (Or.inl rfl)
        refine q_aload_n C dX5_firstMisfit_48 49 2 rfl rfl ?_
        refine q_iload_n C dX5_firstMisfit_49 50 1 rfl rfl ?_
        refine q_aload_n C dX5_firstMisfit_50 51 2 rfl rfl ?_
        refine q_get (k := 0) (j := 0) (f := 1) C hinX5 f15 (fun _ h => h) (by decide) rfl dX5_firstMisfit_51 54 rfl rfl rfl rfl ?_
        refine q_callV (k := 0) (ci := 4) (n := 2) (rest := []) (Rr := []) C rfl (k_isT_recv hTox1) rfl (c_X5_firstMisfitOfPart l hZ hI hN hKs h0 tx ([(h0, .inr (4, [.ref hcx1, .int (nI tx.length)])), (hcx1, .inl (cI, 60, .inl ftx1))]) hTox1 st tx.length (by omega) (by omega) hblk) gX5_firstMisfit_X5_firstMisfitOfPart rfl rfl rfl (by decide +kernel) B.1 ⟨Nat.le_of_ble_eq_true rfl, Nat.le_of_ble_eq_true rfl⟩ rfl rfl (Nat.le_of_ble_eq_true rfl) dX5_firstMisfit_54 ⟨(Nat.le_of_ble_eq_true rfl), (Nat.le_of_ble_eq_true rfl)⟩ [0] [] (by decide : ([0] ++ ([] : List Nat)).Perm (List.range 1)) rfl rfl 57 rfl (fun v0 R0 t0 ht0 hp0 => ?_)
        obtain ⟨rfl, rfl⟩ := hp0
        refine q_eqs (st' := [.int (nI (k_mx tx st))]) rfl ?_
        refine q_eqR (Rs' := [[(h0, .inr (4, [.ref hcx1, .int (nI tx.length)])), (hcx1, .inl (cI, 60, .inl ftx1))]]) rfl ?_
        have hmx54 : k_mx tx st ≤ tx.length := k_mx_blk (by omega) hblk
        exact q_iret C B dX5_firstMisfit_57 rfl rfl (fun t0 ht0 => ⟨by rw [k_Iw_l hiw], rfl⟩)
      · have hg := k_sg_in (tx := tx) (i := x) (by omega)
        refine q_aload_n C dX5_firstMisfit_12 13 2 rfl rfl ?_
        refine q_iload_n C dX5_firstMisfit_13 14 0 rfl rfl ?_
        refine q_callV (k := 0) (ci := 4) (n := 1) (rest := []) (Rr := []) C rfl (k_isT_recv hTox1) rfl (c_X5_codeAt l hZ hI h0 tx ([(h0, .inr (4, [.ref hcx1, .int (nI tx.length)])), (hcx1, .inl (cI, 60, .inl ftx1))]) hTox1 x (by omega)) gX5_firstMisfit_X5_codeAt rfl rfl rfl (by decide +kernel) B.1 ⟨Nat.le_of_ble_eq_true rfl, Nat.le_of_ble_eq_true rfl⟩ rfl rfl (Nat.le_of_ble_eq_true rfl) dX5_firstMisfit_14 ⟨(Nat.le_of_ble_eq_true rfl), (Nat.le_of_ble_eq_true rfl)⟩ [0] [] (by decide : ([0] ++ ([] : List Nat)).Perm (List.range 1)) rfl rfl 17 rfl (fun v0 R0 t0 ht0 hp0 => ?_)
        obtain ⟨rfl, rfl⟩ := hp0
        refine q_eqs (st' := [.int (nI (k_at tx x))]) rfl ?_
        refine q_eqR (Rs' := [[(h0, .inr (4, [.ref hcx1, .int (nI tx.length)])), (hcx1, .inl (cI, 60, .inl ftx1))]]) rfl ?_
        have hc14 : k_at tx x ≤ 126 := (k_at_le hTox1.1.2 (by omega)).2
        have hd14 : 33 ≤ k_at tx x := (k_at_le hTox1.1.2 (by omega)).1
        refine q_bipush (v := nI 59) C dX5_firstMisfit_17 19 rfl (by decide) ?_
        refine q_icmp_ne C dX5_firstMisfit_19 22 42 rfl (by decide) (nI_eq (by omega) (by omega)) (fun h19 => ?_) (fun h19 => ?_)
        · have hnend : ¬ (x = tx.length ∨ k_sg tx x = 59) := by omega
          refine q_iinc (v := nI (x + 1)) C dX5_firstMisfit_42 45 0 rfl rfl (q_ninc1 (by omega)) [(2, .int (nI (x + 1))), (1, .int (nI st)), (0, .ref h0)] (by decide) rfl ?_
          refine q_goto C dX5_firstMisfit_45 4 (by decide) ?_
          refine q_sub (L' := [(2, .int (nI (x + 1))), (1, .int (nI st)), (0, .ref h0)]) [0, 1, 2] rfl ?_
          exact ih_lp st m (x + 1) (by omega) (by omega) (k_Iw_n hiw (by omega) hnend)
        · have hend : x = tx.length ∨ k_sg tx x = 59 := Or.inr (by omega)
          have hblk := k_blk_end hend
          by_cases hk : k_okp tx st = true ∧ k_mx tx st = x
          · have hend : x = tx.length ∨ k_sg tx x = 59 := Or.inr (by omega)
            have hblk := k_blk_end hend
            refine q_aload_n C dX5_firstMisfit_22 23 2 rfl rfl ?_
            refine q_iload_n C dX5_firstMisfit_23 24 1 rfl rfl ?_
            refine q_iload_n C dX5_firstMisfit_24 25 0 rfl rfl ?_
            refine q_callV (k := 0) (ci := 4) (n := 2) (rest := []) (Rr := []) C rfl (k_isT_recv hTox1) rfl (c_X5_kindOf_a l hZ hI hN hKs h0 tx ([(h0, .inr (4, [.ref hcx1, .int (nI tx.length)])), (hcx1, .inl (cI, 60, .inl ftx1))]) hTox1 st x (by omega) (by omega) hblk hk.1 hk.2) gX5_firstMisfit_X5_kindOf rfl rfl rfl (by decide +kernel) B.1 ⟨Nat.le_of_ble_eq_true rfl, Nat.le_of_ble_eq_true rfl⟩ rfl rfl (Nat.le_of_ble_eq_true rfl) dX5_firstMisfit_25 ⟨(Nat.le_of_ble_eq_true rfl), (Nat.le_of_ble_eq_true rfl)⟩ [0] [] (by decide : ([0] ++ ([] : List Nat)).Perm (List.range 1)) rfl rfl 28 rfl (fun v0 R0 t0 ht0 hp0 => ?_)
            obtain ⟨rfl, rfl⟩ := hp0
            refine q_eqs (st' := [.ref ((ad (k_kd tx st - 1)))]) rfl ?_
            refine q_eqR (Rs' := [[(h0, .inr (4, [.ref hcx1, .int (nI tx.length)])), (hcx1, .inl (cI, 60, .inl ftx1))]]) rfl ?_
            refine q_ifnonnull C dX5_firstMisfit_28 38 (by decide) ?_
            refine q_iload_n C dX5_firstMisfit_38 39 0 rfl rfl ?_
            refine q_iconst (v := nI 1) C dX5_firstMisfit_39 40 rfl (by decide) ?_
            refine q_iadd (v := nI (x + 1)) C dX5_firstMisfit_40 41 rfl (q_nadd (by omega)) ?_
            refine q_istore_n C dX5_firstMisfit_41 42 rfl [(1, .int (nI (x + 1))), (2, .int (nI x)), (0, .ref h0)] (by decide) rfl ?_
            refine q_iinc (v := nI (x + 1)) C dX5_firstMisfit_42 45 1 rfl rfl (q_ninc1 (by omega)) [(2, .int (nI (x + 1))), (1, .int (nI (x + 1))), (0, .ref h0)] (by decide) rfl ?_
            refine q_goto C dX5_firstMisfit_45 4 (by decide) ?_
            refine q_sub (L' := [(2, .int (nI (x + 1))), (1, .int (nI (x + 1))), (0, .ref h0)]) [0, 1, 2] rfl ?_
            exact ih_lp (x + 1) (m - 1) (x + 1) (by omega) (by omega) (k_Iw_y hiw (by omega) hend hk (by omega))
          · have hend : x = tx.length ∨ k_sg tx x = 59 := Or.inr (by omega)
            have hblk := k_blk_end hend
            refine q_aload_n C dX5_firstMisfit_22 23 2 rfl rfl ?_
            refine q_iload_n C dX5_firstMisfit_23 24 1 rfl rfl ?_
            refine q_iload_n C dX5_firstMisfit_24 25 0 rfl rfl ?_
            refine q_callV (k := 0) (ci := 4) (n := 2) (rest := []) (Rr := []) C rfl (k_isT_recv hTox1) rfl (c_X5_kindOf_b l hZ hI hN hKs h0 tx ([(h0, .inr (4, [.ref hcx1, .int (nI tx.length)])), (hcx1, .inl (cI, 60, .inl ftx1))]) hTox1 st x (by omega) (by omega) hblk hk) gX5_firstMisfit_X5_kindOf rfl rfl rfl (by decide +kernel) B.1 ⟨Nat.le_of_ble_eq_true rfl, Nat.le_of_ble_eq_true rfl⟩ rfl rfl (Nat.le_of_ble_eq_true rfl) dX5_firstMisfit_25 ⟨(Nat.le_of_ble_eq_true rfl), (Nat.le_of_ble_eq_true rfl)⟩ [0] [] (by decide : ([0] ++ ([] : List Nat)).Perm (List.range 1)) rfl rfl 28 rfl (fun v0 R0 t0 ht0 hp0 => ?_)
            obtain ⟨rfl, rfl⟩ := hp0
            refine q_eqs (st' := [.null]) rfl ?_
            refine q_eqR (Rs' := [[(h0, .inr (4, [.ref hcx1, .int (nI tx.length)])), (hcx1, .inl (cI, 60, .inl ftx1))]]) rfl ?_
            refine q_ifnonnullN C dX5_firstMisfit_28 31 rfl ?_
            refine q_aload_n C dX5_firstMisfit_31 32 2 rfl rfl ?_
            refine q_iload_n C dX5_firstMisfit_32 33 1 rfl rfl ?_
            refine q_iload_n C dX5_firstMisfit_33 34 0 rfl rfl ?_
            refine q_callV (k := 0) (ci := 4) (n := 2) (rest := []) (Rr := []) C rfl (k_isT_recv hTox1) rfl (c_X5_firstMisfitOfPart l hZ hI hN hKs h0 tx ([(h0, .inr (4, [.ref hcx1, .int (nI tx.length)])), (hcx1, .inl (cI, 60, .inl ftx1))]) hTox1 st x (by omega) (by omega) hblk) gX5_firstMisfit_X5_firstMisfitOfPart rfl rfl rfl (by decide +kernel) B.1 ⟨Nat.le_of_ble_eq_true rfl, Nat.le_of_ble_eq_true rfl⟩ rfl rfl (Nat.le_of_ble_eq_true rfl) dX5_firstMisfit_34 ⟨(Nat.le_of_ble_eq_true rfl), (Nat.le_of_ble_eq_true rfl)⟩ [0] [] (by decide : ([0] ++ ([] : List Nat)).Perm (List.range 1)) rfl rfl 37 rfl (fun v0 R0 t0 ht0 hp0 => ?_)
            obtain ⟨rfl, rfl⟩ := hp0
            refine q_eqs (st' := [.int (nI (k_mx tx st))]) rfl ?_
            refine q_eqR (Rs' := [[(h0, .inr (4, [.ref hcx1, .int (nI tx.length)])), (hcx1, .inl (cI, 60, .inl ftx1))]]) rfl ?_
            have hmx34 : k_mx tx st ≤ x := k_mx_blk (by omega) hblk
            exact q_iret C B dX5_firstMisfit_37 rfl rfl (fun t0 ht0 => ⟨by rw [k_Iw_f hiw (by omega) hblk hk], rfl⟩)
  refine q_sub (L' := [(2, .int (nI 0)), (1, .int (nI 0)), (0, .ref h0)]) [0, 1, 2] rfl ?_
  exact lp _ 0 60 0 (Nat.lt_succ_self _) (by omega) hiw0
