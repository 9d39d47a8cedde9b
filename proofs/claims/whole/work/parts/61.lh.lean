set_option maxHeartbeats 400000 in
theorem c_L_set_ok (l : Launch) {D : va_G} {tys : List (ClassId × FieldType)} {Z : (Nat → Prop) → State → Heap → Prop} (hZ : q_St Z) {cJ : ClassId} (hJ : tys[2]? = some (cJ, .long)) (x o : Nat) (v : Int32) {rm : Room} {mc ms : Nat} {r : Int32} {w : va_W} (hw : ∃ fs : List Value, w[0]? = some (x, .inr (5, fs))) {Post : Option Value → List va_W → State → Prop} (hM : q_Ct l D tys Z yX6_set wsX6_set rm mc ms [.ref x, .int v] [w] Post) (hf : rm.frames ≤ 10) (hlo : rm.locals ≤ 400) (hc : rm.cells = mc) (hs : rm.slots = ms) (hp : ∀ v0 R t, Post v0 R t → v0 = some (.int r)) (g : Nat → Int64) : q_Ct l D tys Z yL_set wsL_set { frames := 11, cells := mc, slots := ms, locals := 430 } mc ms [.ref x, .int v, .ref o] [w, [(o, .inl (cJ, 1, .inr (.inl g)))]] (fun v0 R0 _ => v0 = some (.int (nI 0)) ∧ ∃ R t, Post (some (.int r)) R t ∧ R0 = [R.flatten, [(o, .inl (cJ, 1, .inr (.inl (va_up g 0 r.toInt64))))]]) := by
  refine q_ctW (cc := cL_set) (maxL := 4) (ret := some .int) (own := RL) (hh := [(0, 9, 12, 13), (0, 9, 15, 15)]) (by decide) rfl hZ (Nat.le_of_ble_eq_true rfl) rfl ?_
  intro p9 e9 R s9 m9 args below meth c9 A Q C B TB
  have hts := C.2.2.2.2.1
  refine q_eqL (L' := [(0, .ref x), (1, .int v), (2, .ref o)]) rfl ?_
  refine q_aload_n C dL_set_0 1 2 rfl rfl ?_
  refine q_iconst (v := nI 0) C dL_set_1 2 rfl (by decide) ?_
  refine q_aload_n C dL_set_2 3 0 rfl rfl ?_
  refine q_iload_n C dL_set_3 4 1 rfl rfl ?_
  refine q_callV (k := 0) (ci := 5) (n := 1) (As := [.int v]) (rest := [.int (nI 0), .ref o]) (Rr := [[(o, .inl (cJ, 1, .inr (.inl g)))]]) C rfl hw rfl hM gL_set_X6_set rfl hc hs (by decide +kernel) B.1 ⟨by show _ ≤ 11; omega, by show 8 + (2 + 11) + _ ≤ 430; omega⟩ rfl rfl (Nat.le_of_ble_eq_true rfl) dL_set_4 ⟨by show 0 + mc ≤ mc; omega, by show 0 + ms ≤ ms; omega⟩ [0] [1] (by decide : ([0] ++ ([1] : List Nat)).Perm (List.range 2)) rfl rfl 7 rfl (fun v0 R0 t0 ht0 hp0 => ?_)
  obtain rfl := hp _ _ _ hp0
  refine q_eqs (st' := [.int r, .int (nI 0), .ref o]) rfl ?_
  refine q_resp (Rs' := [R0.flatten, [(o, .inl (cJ, 1, .inr (.inl g)))]]) (by simp) ?_
  refine q_eqn (cells' := mc) (slots' := ms) (by omega) (by omega) ?_
  refine q_i2l (v := r.toInt64) C dL_set_7 8 rfl rfl ?_
  refine q_last (k := 1) (j := 0) C dL_set_8 9 rfl rfl rfl hJ 0 rfl (by decide) (by decide) [R0.flatten, [(o, .inl (cJ, 1, .inr (.inl (va_up g 0 r.toInt64))))]] rfl ?_
  refine q_goto C dL_set_9 18 (by decide) ?_
  refine q_iconst (v := nI 0) C dL_set_18 19 rfl (by decide) ?_
  exact q_iret C B dL_set_19 rfl rfl (fun t1 ht1 => ⟨rfl, R0, t0, hp0, rfl⟩)

set_option maxHeartbeats 400000 in
theorem c_L_set_x1 (l : Launch) {D : va_G} {tys : List (ClassId × FieldType)} {Z : (Nat → Prop) → State → Heap → Prop} (hZ : q_St Z) {cJ : ClassId} (hJ : tys[2]? = some (cJ, .long)) (hXs : q_Xs Z) (x o : Nat) (v : Int32) {rm : Room} {w : va_W} (hw : ∃ fs : List Value, w[0]? = some (x, .inr (5, fs))) (hM : q_Xt l D tys Z yX6_set wsX6_set rm 1 6 [.ref x, .int v] [w] "java/lang/IndexOutOfBoundsException") (hf : rm.frames ≤ 10) (hlo : rm.locals ≤ 400) (hc : rm.cells = 1) (hs : rm.slots = 6) (g : Nat → Int64) : q_Ct l D tys Z yL_set wsL_set { frames := 11, cells := 1, slots := 6, locals := 430 } 1 6 [.ref x, .int v, .ref o] [w, [(o, .inl (cJ, 1, .inr (.inl g)))]] (fun v0 R0 _ => v0 = some (.int (nI 1)) ∧ R0 = [w, [(o, .inl (cJ, 1, .inr (.inl g)))]]) := by
  refine q_ctW (cc := cL_set) (maxL := 4) (ret := some .int) (own := RL) (hh := [(0, 9, 12, 13), (0, 9, 15, 15)]) (by decide) rfl hZ (Nat.le_of_ble_eq_true rfl) rfl ?_
  intro p9 e9 R s9 m9 args below meth c9 A Q C B TB
  have hts := C.2.2.2.2.1
  refine q_eqL (L' := [(0, .ref x), (1, .int v), (2, .ref o)]) rfl ?_
  refine q_aload_n C dL_set_0 1 2 rfl rfl ?_
  refine q_iconst (v := nI 0) C dL_set_1 2 rfl (by decide) ?_
  refine q_aload_n C dL_set_2 3 0 rfl rfl ?_
  refine q_iload_n C dL_set_3 4 1 rfl rfl ?_
  refine q_callXV (k := 0) (ci := 5) (n := 1) (As := [.int v]) (rest := [.int (nI 0), .ref o]) (Rr := [[(o, .inl (cJ, 1, .inr (.inl g)))]]) C rfl hw rfl hM gL_set_X6_set rfl hc hs (by decide +kernel) B.1 ⟨by show _ ≤ 11; omega, by show 8 + (2 + 11) + _ ≤ 430; omega⟩ rfl rfl (Nat.le_of_ble_eq_true rfl) dL_set_4 ⟨by show 0 + 1 ≤ 1; omega, by show 0 + 6 ≤ 6; omega⟩ [0] [1] (by decide : ([0] ++ ([1] : List Nat)).Perm (List.range 2)) rfl rfl
    [] ⟨0, 9, 12, 13⟩ [⟨0, 9, 15, 15⟩] (TB.trans rfl) (fun z hz => nomatch hz) (by decide) (by decide) (hts (.classLink RL 13 "java/lang/IndexOutOfBoundsException") (by decide +kernel)) (va_Nw.use rfl ((hXs _ _ _ C.2.2.2.2.2.2.2.1).1 (.castable "java/lang/IndexOutOfBoundsException" "java/lang/IndexOutOfBoundsException") (by decide +kernel))) 12 rfl (fun q9 => ?_)
  refine q_astore_n C dL_set_12 13 rfl [(3, .ref q9), (0, .ref x), (1, .int v), (2, .ref o)] (by decide) rfl ?_
  refine q_iconst (v := nI 1) C dL_set_13 14 rfl (by decide) ?_
  exact q_iret C B dL_set_14 rfl rfl (fun t1 ht1 => ⟨rfl, rfl⟩)

set_option maxHeartbeats 400000 in
theorem c_L_set_x2 (l : Launch) {D : va_G} {tys : List (ClassId × FieldType)} {Z : (Nat → Prop) → State → Heap → Prop} (hZ : q_St Z) {cJ : ClassId} (hJ : tys[2]? = some (cJ, .long)) (hXs : q_Xs Z) (x o : Nat) (v : Int32) {rm : Room} {w : va_W} (hw : ∃ fs : List Value, w[0]? = some (x, .inr (5, fs))) (hM : q_Xt l D tys Z yX6_set wsX6_set rm 1 6 [.ref x, .int v] [w] "java/lang/IllegalStateException") (hf : rm.frames ≤ 10) (hlo : rm.locals ≤ 400) (hc : rm.cells = 1) (hs : rm.slots = 6) (g : Nat → Int64) : q_Ct l D tys Z yL_set wsL_set { frames := 11, cells := 1, slots := 6, locals := 430 } 1 6 [.ref x, .int v, .ref o] [w, [(o, .inl (cJ, 1, .inr (.inl g)))]] (fun v0 R0 _ => v0 = some (.int (nI 2)) ∧ R0 = [w, [(o, .inl (cJ, 1, .inr (.inl g)))]]) := by
  refine q_ctW (cc := cL_set) (maxL := 4) (ret := some .int) (own := RL) (hh := [(0, 9, 12, 13), (0, 9, 15, 15)]) (by decide) rfl hZ (Nat.le_of_ble_eq_true rfl) rfl ?_
  intro p9 e9 R s9 m9 args below meth c9 A Q C B TB
  have hts := C.2.2.2.2.1
  refine q_eqL (L' := [(0, .ref x), (1, .int v), (2, .ref o)]) rfl ?_
  refine q_aload_n C dL_set_0 1 2 rfl rfl ?_
  refine q_iconst (v := nI 0) C dL_set_1 2 rfl (by decide) ?_
  refine q_aload_n C dL_set_2 3 0 rfl rfl ?_
  refine q_iload_n C dL_set_3 4 1 rfl rfl ?_
  refine q_callXV (k := 0) (ci := 5) (n := 1) (As := [.int v]) (rest := [.int (nI 0), .ref o]) (Rr := [[(o, .inl (cJ, 1, .inr (.inl g)))]]) C rfl hw rfl hM gL_set_X6_set rfl hc hs (by decide +kernel) B.1 ⟨by show _ ≤ 11; omega, by show 8 + (2 + 11) + _ ≤ 430; omega⟩ rfl rfl (Nat.le_of_ble_eq_true rfl) dL_set_4 ⟨by show 0 + 1 ≤ 1; omega, by show 0 + 6 ≤ 6; omega⟩ [0] [1] (by decide : ([0] ++ ([1] : List Nat)).Perm (List.range 2)) rfl rfl
    [⟨0, 9, 12, 13⟩] ⟨0, 9, 15, 15⟩ [] (TB.trans rfl) (fun z hz => by cases List.mem_singleton.mp hz; exact Or.inr ⟨by decide, "java/lang/IndexOutOfBoundsException", hts (.classLink RL 13 "java/lang/IndexOutOfBoundsException") (by decide +kernel), (hXs _ _ _ C.2.2.2.2.2.2.2.1).2.2.2 ("java/lang/IllegalStateException", "java/lang/IndexOutOfBoundsException") (by decide)⟩) (by decide) (by decide) (hts (.classLink RL 15 "java/lang/IllegalStateException") (by decide +kernel)) (va_Nw.use rfl ((hXs _ _ _ C.2.2.2.2.2.2.2.1).1 (.castable "java/lang/IllegalStateException" "java/lang/IllegalStateException") (by decide +kernel))) 15 rfl (fun q9 => ?_)
  refine q_astore_n C dL_set_15 16 rfl [(3, .ref q9), (0, .ref x), (1, .int v), (2, .ref o)] (by decide) rfl ?_
  refine q_iconst (v := nI 2) C dL_set_16 17 rfl (by decide) ?_
  exact q_iret C B dL_set_17 rfl rfl (fun t1 ht1 => ⟨rfl, rfl⟩)

set_option maxHeartbeats 400000 in
theorem c_L_idle_ok (l : Launch) {D : va_G} {tys : List (ClassId × FieldType)} {Z : (Nat → Prop) → State → Heap → Prop} (hZ : q_St Z) {cJ : ClassId} (hJ : tys[2]? = some (cJ, .long)) (x o : Nat) (v : Int32) {rm : Room} {mc ms : Nat} {r : Int32} {w : va_W} (hw : ∃ fs : List Value, w[0]? = some (x, .inr (5, fs))) {Post : Option Value → List va_W → State → Prop} (hM : q_Ct l D tys Z yX6_idle wsX6_idle rm mc ms [.ref x, .int v] [w] Post) (hf : rm.frames ≤ 10) (hlo : rm.locals ≤ 400) (hc : rm.cells = mc) (hs : rm.slots = ms) (hp : ∀ v0 R t, Post v0 R t → v0 = some (.int r)) (g : Nat → Int64) : q_Ct l D tys Z yL_idle wsL_idle { frames := 11, cells := mc, slots := ms, locals := 430 } mc ms [.ref x, .int v, .ref o] [w, [(o, .inl (cJ, 1, .inr (.inl g)))]] (fun v0 R0 _ => v0 = some (.int (nI 0)) ∧ ∃ R t, Post (some (.int r)) R t ∧ R0 = [R.flatten, [(o, .inl (cJ, 1, .inr (.inl (va_up g 0 r.toInt64))))]]) := by
  refine q_ctW (cc := cL_idle) (maxL := 4) (ret := some .int) (own := RL) (hh := [(0, 9, 12, 20)]) (by decide) rfl hZ (Nat.le_of_ble_eq_true rfl) rfl ?_
  intro p9 e9 R s9 m9 args below meth c9 A Q C B TB
  have hts := C.2.2.2.2.1
  refine q_eqL (L' := [(0, .ref x), (1, .int v), (2, .ref o)]) rfl ?_
  refine q_aload_n C dL_idle_0 1 2 rfl rfl ?_
  refine q_iconst (v := nI 0) C dL_idle_1 2 rfl (by decide) ?_
  refine q_aload_n C dL_idle_2 3 0 rfl rfl ?_
  refine q_iload_n C dL_idle_3 4 1 rfl rfl ?_
  refine q_callV (k := 0) (ci := 5) (n := 1) (As := [.int v]) (rest := [.int (nI 0), .ref o]) (Rr := [[(o, .inl (cJ, 1, .inr (.inl g)))]]) C rfl hw rfl hM gL_idle_X6_idle rfl hc hs (by decide +kernel) B.1 ⟨by show _ ≤ 11; omega, by show 8 + (2 + 11) + _ ≤ 430; omega⟩ rfl rfl (Nat.le_of_ble_eq_true rfl) dL_idle_4 ⟨by show 0 + mc ≤ mc; omega, by show 0 + ms ≤ ms; omega⟩ [0] [1] (by decide : ([0] ++ ([1] : List Nat)).Perm (List.range 2)) rfl rfl 7 rfl (fun v0 R0 t0 ht0 hp0 => ?_)
  obtain rfl := hp _ _ _ hp0
  refine q_eqs (st' := [.int r, .int (nI 0), .ref o]) rfl ?_
  refine q_resp (Rs' := [R0.flatten, [(o, .inl (cJ, 1, .inr (.inl g)))]]) (by simp) ?_
  refine q_eqn (cells' := mc) (slots' := ms) (by omega) (by omega) ?_
  refine q_i2l (v := r.toInt64) C dL_idle_7 8 rfl rfl ?_
  refine q_last (k := 1) (j := 0) C dL_idle_8 9 rfl rfl rfl hJ 0 rfl (by decide) (by decide) [R0.flatten, [(o, .inl (cJ, 1, .inr (.inl (va_up g 0 r.toInt64))))]] rfl ?_
  refine q_goto C dL_idle_9 15 (by decide) ?_
  refine q_iconst (v := nI 0) C dL_idle_15 16 rfl (by decide) ?_
  exact q_iret C B dL_idle_16 rfl rfl (fun t1 ht1 => ⟨rfl, R0, t0, hp0, rfl⟩)

set_option maxHeartbeats 400000 in
theorem c_L_idle_x1 (l : Launch) {D : va_G} {tys : List (ClassId × FieldType)} {Z : (Nat → Prop) → State → Heap → Prop} (hZ : q_St Z) {cJ : ClassId} (hJ : tys[2]? = some (cJ, .long)) (hXs : q_Xs Z) (x o : Nat) (v : Int32) {rm : Room} {w : va_W} (hw : ∃ fs : List Value, w[0]? = some (x, .inr (5, fs))) (hM : q_Xt l D tys Z yX6_idle wsX6_idle rm 1 6 [.ref x, .int v] [w] "java/lang/IllegalArgumentException") (hf : rm.frames ≤ 10) (hlo : rm.locals ≤ 400) (hc : rm.cells = 1) (hs : rm.slots = 6) (g : Nat → Int64) : q_Ct l D tys Z yL_idle wsL_idle { frames := 11, cells := 1, slots := 6, locals := 430 } 1 6 [.ref x, .int v, .ref o] [w, [(o, .inl (cJ, 1, .inr (.inl g)))]] (fun v0 R0 _ => v0 = some (.int (nI 1)) ∧ R0 = [w, [(o, .inl (cJ, 1, .inr (.inl g)))]]) := by
  refine q_ctW (cc := cL_idle) (maxL := 4) (ret := some .int) (own := RL) (hh := [(0, 9, 12, 20)]) (by decide) rfl hZ (Nat.le_of_ble_eq_true rfl) rfl ?_
  intro p9 e9 R s9 m9 args below meth c9 A Q C B TB
  have hts := C.2.2.2.2.1
  refine q_eqL (L' := [(0, .ref x), (1, .int v), (2, .ref o)]) rfl ?_
  refine q_aload_n C dL_idle_0 1 2 rfl rfl ?_
  refine q_iconst (v := nI 0) C dL_idle_1 2 rfl (by decide) ?_
  refine q_aload_n C dL_idle_2 3 0 rfl rfl ?_
  refine q_iload_n C dL_idle_3 4 1 rfl rfl ?_
  refine q_callXV (k := 0) (ci := 5) (n := 1) (As := [.int v]) (rest := [.int (nI 0), .ref o]) (Rr := [[(o, .inl (cJ, 1, .inr (.inl g)))]]) C rfl hw rfl hM gL_idle_X6_idle rfl hc hs (by decide +kernel) B.1 ⟨by show _ ≤ 11; omega, by show 8 + (2 + 11) + _ ≤ 430; omega⟩ rfl rfl (Nat.le_of_ble_eq_true rfl) dL_idle_4 ⟨by show 0 + 1 ≤ 1; omega, by show 0 + 6 ≤ 6; omega⟩ [0] [1] (by decide : ([0] ++ ([1] : List Nat)).Perm (List.range 2)) rfl rfl
    [] ⟨0, 9, 12, 20⟩ [] (TB.trans rfl) (fun z hz => nomatch hz) (by decide) (by decide) (hts (.classLink RL 20 "java/lang/IllegalArgumentException") (by decide +kernel)) (va_Nw.use rfl ((hXs _ _ _ C.2.2.2.2.2.2.2.1).1 (.castable "java/lang/IllegalArgumentException" "java/lang/IllegalArgumentException") (by decide +kernel))) 12 rfl (fun q9 => ?_)
  refine q_astore_n C dL_idle_12 13 rfl [(3, .ref q9), (0, .ref x), (1, .int v), (2, .ref o)] (by decide) rfl ?_
  refine q_iconst (v := nI 1) C dL_idle_13 14 rfl (by decide) ?_
  exact q_iret C B dL_idle_14 rfl rfl (fun t1 ht1 => ⟨rfl, rfl⟩)

set_option maxHeartbeats 400000 in
theorem c_L_fix_ok (l : Launch) {D : va_G} {tys : List (ClassId × FieldType)} {Z : (Nat → Prop) → State → Heap → Prop} (hZ : q_St Z) {cJ : ClassId} (hJ : tys[2]? = some (cJ, .long)) (x o : Nat) (v : Int32) {rm : Room} {mc ms : Nat} {r : Int32} {w : va_W} (hw : ∃ fs : List Value, w[0]? = some (x, .inr (5, fs))) {Post : Option Value → List va_W → State → Prop} (hM : q_Ct l D tys Z yX6_fix wsX6_fix rm mc ms [.ref x, .int v] [w] Post) (hf : rm.frames ≤ 10) (hlo : rm.locals ≤ 400) (hc : rm.cells = mc) (hs : rm.slots = ms) (hp : ∀ v0 R t, Post v0 R t → v0 = some (.int r)) (g : Nat → Int64) : q_Ct l D tys Z yL_fix wsL_fix { frames := 11, cells := mc, slots := ms, locals := 430 } mc ms [.ref x, .int v, .ref o] [w, [(o, .inl (cJ, 1, .inr (.inl g)))]] (fun v0 R0 _ => v0 = some (.int (nI 0)) ∧ ∃ R t, Post (some (.int r)) R t ∧ R0 = [R.flatten, [(o, .inl (cJ, 1, .inr (.inl (va_up g 0 r.toInt64))))]]) := by
  refine q_ctW (cc := cL_fix) (maxL := 4) (ret := some .int) (own := RL) (hh := [(0, 9, 12, 13), (0, 9, 15, 15)]) (by decide) rfl hZ (Nat.le_of_ble_eq_true rfl) rfl ?_
  intro p9 e9 R s9 m9 args below meth c9 A Q C B TB
  have hts := C.2.2.2.2.1
  refine q_eqL (L' := [(0, .ref x), (1, .int v), (2, .ref o)]) rfl ?_
  refine q_aload_n C dL_fix_0 1 2 rfl rfl ?_
  refine q_iconst (v := nI 0) C dL_fix_1 2 rfl (by decide) ?_
  refine q_aload_n C dL_fix_2 3 0 rfl rfl ?_
  refine q_iload_n C dL_fix_3 4 1 rfl rfl ?_
  refine q_callV (k := 0) (ci := 5) (n := 1) (As := [.int v]) (rest := [.int (nI 0), .ref o]) (Rr := [[(o, .inl (cJ, 1, .inr (.inl g)))]]) C rfl hw rfl hM gL_fix_X6_fix rfl hc hs (by decide +kernel) B.1 ⟨by show _ ≤ 11; omega, by show 8 + (2 + 11) + _ ≤ 430; omega⟩ rfl rfl (Nat.le_of_ble_eq_true rfl) dL_fix_4 ⟨by show 0 + mc ≤ mc; omega, by show 0 + ms ≤ ms; omega⟩ [0] [1] (by decide : ([0] ++ ([1] : List Nat)).Perm (List.range 2)) rfl rfl 7 rfl (fun v0 R0 t0 ht0 hp0 => ?_)
  obtain rfl := hp _ _ _ hp0
  refine q_eqs (st' := [.int r, .int (nI 0), .ref o]) rfl ?_
  refine q_resp (Rs' := [R0.flatten, [(o, .inl (cJ, 1, .inr (.inl g)))]]) (by simp) ?_
  refine q_eqn (cells' := mc) (slots' := ms) (by omega) (by omega) ?_
  refine q_i2l (v := r.toInt64) C dL_fix_7 8 rfl rfl ?_
  refine q_last (k := 1) (j := 0) C dL_fix_8 9 rfl rfl rfl hJ 0 rfl (by decide) (by decide) [R0.flatten, [(o, .inl (cJ, 1, .inr (.inl (va_up g 0 r.toInt64))))]] rfl ?_
  refine q_goto C dL_fix_9 18 (by decide) ?_
  refine q_iconst (v := nI 0) C dL_fix_18 19 rfl (by decide) ?_
  exact q_iret C B dL_fix_19 rfl rfl (fun t1 ht1 => ⟨rfl, R0, t0, hp0, rfl⟩)

set_option maxHeartbeats 400000 in
theorem c_L_fix_x1 (l : Launch) {D : va_G} {tys : List (ClassId × FieldType)} {Z : (Nat → Prop) → State → Heap → Prop} (hZ : q_St Z) {cJ : ClassId} (hJ : tys[2]? = some (cJ, .long)) (hXs : q_Xs Z) (x o : Nat) (v : Int32) {rm : Room} {w : va_W} (hw : ∃ fs : List Value, w[0]? = some (x, .inr (5, fs))) (hM : q_Xt l D tys Z yX6_fix wsX6_fix rm 1 6 [.ref x, .int v] [w] "java/lang/IndexOutOfBoundsException") (hf : rm.frames ≤ 10) (hlo : rm.locals ≤ 400) (hc : rm.cells = 1) (hs : rm.slots = 6) (g : Nat → Int64) : q_Ct l D tys Z yL_fix wsL_fix { frames := 11, cells := 1, slots := 6, locals := 430 } 1 6 [.ref x, .int v, .ref o] [w, [(o, .inl (cJ, 1, .inr (.inl g)))]] (fun v0 R0 _ => v0 = some (.int (nI 1)) ∧ R0 = [w, [(o, .inl (cJ, 1, .inr (.inl g)))]]) := by
  refine q_ctW (cc := cL_fix) (maxL := 4) (ret := some .int) (own := RL) (hh := [(0, 9, 12, 13), (0, 9, 15, 15)]) (by decide) rfl hZ (Nat.le_of_ble_eq_true rfl) rfl ?_
  intro p9 e9 R s9 m9 args below meth c9 A Q C B TB
  have hts := C.2.2.2.2.1
  refine q_eqL (L' := [(0, .ref x), (1, .int v), (2, .ref o)]) rfl ?_
  refine q_aload_n C dL_fix_0 1 2 rfl rfl ?_
  refine q_iconst (v := nI 0) C dL_fix_1 2 rfl (by decide) ?_
  refine q_aload_n C dL_fix_2 3 0 rfl rfl ?_
  refine q_iload_n C dL_fix_3 4 1 rfl rfl ?_
  refine q_callXV (k := 0) (ci := 5) (n := 1) (As := [.int v]) (rest := [.int (nI 0), .ref o]) (Rr := [[(o, .inl (cJ, 1, .inr (.inl g)))]]) C rfl hw rfl hM gL_fix_X6_fix rfl hc hs (by decide +kernel) B.1 ⟨by show _ ≤ 11; omega, by show 8 + (2 + 11) + _ ≤ 430; omega⟩ rfl rfl (Nat.le_of_ble_eq_true rfl) dL_fix_4 ⟨by show 0 + 1 ≤ 1; omega, by show 0 + 6 ≤ 6; omega⟩ [0] [1] (by decide : ([0] ++ ([1] : List Nat)).Perm (List.range 2)) rfl rfl
    [] ⟨0, 9, 12, 13⟩ [⟨0, 9, 15, 15⟩] (TB.trans rfl) (fun z hz => nomatch hz) (by decide) (by decide) (hts (.classLink RL 13 "java/lang/IndexOutOfBoundsException") (by decide +kernel)) (va_Nw.use rfl ((hXs _ _ _ C.2.2.2.2.2.2.2.1).1 (.castable "java/lang/IndexOutOfBoundsException" "java/lang/IndexOutOfBoundsException") (by decide +kernel))) 12 rfl (fun q9 => ?_)
  refine q_astore_n C dL_fix_12 13 rfl [(3, .ref q9), (0, .ref x), (1, .int v), (2, .ref o)] (by decide) rfl ?_
  refine q_iconst (v := nI 1) C dL_fix_13 14 rfl (by decide) ?_
  exact q_iret C B dL_fix_14 rfl rfl (fun t1 ht1 => ⟨rfl, rfl⟩)

set_option maxHeartbeats 400000 in
theorem c_L_fix_x2 (l : Launch) {D : va_G} {tys : List (ClassId × FieldType)} {Z : (Nat → Prop) → State → Heap → Prop} (hZ : q_St Z) {cJ : ClassId} (hJ : tys[2]? = some (cJ, .long)) (hXs : q_Xs Z) (x o : Nat) (v : Int32) {rm : Room} {w : va_W} (hw : ∃ fs : List Value, w[0]? = some (x, .inr (5, fs))) (hM : q_Xt l D tys Z yX6_fix wsX6_fix rm 1 6 [.ref x, .int v] [w] "java/lang/IllegalStateException") (hf : rm.frames ≤ 10) (hlo : rm.locals ≤ 400) (hc : rm.cells = 1) (hs : rm.slots = 6) (g : Nat → Int64) : q_Ct l D tys Z yL_fix wsL_fix { frames := 11, cells := 1, slots := 6, locals := 430 } 1 6 [.ref x, .int v, .ref o] [w, [(o, .inl (cJ, 1, .inr (.inl g)))]] (fun v0 R0 _ => v0 = some (.int (nI 2)) ∧ R0 = [w, [(o, .inl (cJ, 1, .inr (.inl g)))]]) := by
  refine q_ctW (cc := cL_fix) (maxL := 4) (ret := some .int) (own := RL) (hh := [(0, 9, 12, 13), (0, 9, 15, 15)]) (by decide) rfl hZ (Nat.le_of_ble_eq_true rfl) rfl ?_
  intro p9 e9 R s9 m9 args below meth c9 A Q C B TB
  have hts := C.2.2.2.2.1
  refine q_eqL (L' := [(0, .ref x), (1, .int v), (2, .ref o)]) rfl ?_
  refine q_aload_n C dL_fix_0 1 2 rfl rfl ?_
  refine q_iconst (v := nI 0) C dL_fix_1 2 rfl (by decide) ?_
  refine q_aload_n C dL_fix_2 3 0 rfl rfl ?_
  refine q_iload_n C dL_fix_3 4 1 rfl rfl ?_
  refine q_callXV (k := 0) (ci := 5) (n := 1) (As := [.int v]) (rest := [.int (nI 0), .ref o]) (Rr := [[(o, .inl (cJ, 1, .inr (.inl g)))]]) C rfl hw rfl hM gL_fix_X6_fix rfl hc hs (by decide +kernel) B.1 ⟨by show _ ≤ 11; omega, by show 8 + (2 + 11) + _ ≤ 430; omega⟩ rfl rfl (Nat.le_of_ble_eq_true rfl) dL_fix_4 ⟨by show 0 + 1 ≤ 1; omega, by show 0 + 6 ≤ 6; omega⟩ [0] [1] (by decide : ([0] ++ ([1] : List Nat)).Perm (List.range 2)) rfl rfl
    [⟨0, 9, 12, 13⟩] ⟨0, 9, 15, 15⟩ [] (TB.trans rfl) (fun z hz => by cases List.mem_singleton.mp hz; exact Or.inr ⟨by decide, "java/lang/IndexOutOfBoundsException", hts (.classLink RL 13 "java/lang/IndexOutOfBoundsException") (by decide +kernel), (hXs _ _ _ C.2.2.2.2.2.2.2.1).2.2.2 ("java/lang/IllegalStateException", "java/lang/IndexOutOfBoundsException") (by decide)⟩) (by decide) (by decide) (hts (.classLink RL 15 "java/lang/IllegalStateException") (by decide +kernel)) (va_Nw.use rfl ((hXs _ _ _ C.2.2.2.2.2.2.2.1).1 (.castable "java/lang/IllegalStateException" "java/lang/IllegalStateException") (by decide +kernel))) 15 rfl (fun q9 => ?_)
  refine q_astore_n C dL_fix_15 16 rfl [(3, .ref q9), (0, .ref x), (1, .int v), (2, .ref o)] (by decide) rfl ?_
  refine q_iconst (v := nI 2) C dL_fix_16 17 rfl (by decide) ?_
  exact q_iret C B dL_fix_17 rfl rfl (fun t1 ht1 => ⟨rfl, rfl⟩)

set_option maxHeartbeats 400000 in
theorem c_L_back_ok (l : Launch) {D : va_G} {tys : List (ClassId × FieldType)} {Z : (Nat → Prop) → State → Heap → Prop} (hZ : q_St Z) {cJ : ClassId} (hJ : tys[2]? = some (cJ, .long)) (x o : Nat) {rm : Room} {mc ms : Nat} {r : Int32} {w : va_W} (hw : ∃ fs : List Value, w[0]? = some (x, .inr (5, fs))) {Post : Option Value → List va_W → State → Prop} (hM : q_Ct l D tys Z yX6_back wsX6_back rm mc ms [.ref x] [w] Post) (hf : rm.frames ≤ 10) (hlo : rm.locals ≤ 400) (hc : rm.cells = mc) (hs : rm.slots = ms) (hp : ∀ v0 R t, Post v0 R t → v0 = some (.int r)) (g : Nat → Int64) : q_Ct l D tys Z yL_back wsL_back { frames := 11, cells := mc, slots := ms, locals := 430 } mc ms [.ref x, .ref o] [w, [(o, .inl (cJ, 1, .inr (.inl g)))]] (fun v0 R0 _ => v0 = some (.int (nI 0)) ∧ ∃ R t, Post (some (.int r)) R t ∧ R0 = [R.flatten, [(o, .inl (cJ, 1, .inr (.inl (va_up g 0 r.toInt64))))]]) := by
  refine q_ctW (cc := cL_back) (maxL := 3) (ret := some .int) (own := RL) (hh := [(0, 8, 11, 15)]) (by decide) rfl hZ (Nat.le_of_ble_eq_true rfl) rfl ?_
  intro p9 e9 R s9 m9 args below meth c9 A Q C B TB
  have hts := C.2.2.2.2.1
  refine q_eqL (L' := [(0, .ref x), (1, .ref o)]) rfl ?_
  refine q_aload_n C dL_back_0 1 1 rfl rfl ?_
  refine q_iconst (v := nI 0) C dL_back_1 2 rfl (by decide) ?_
  refine q_aload_n C dL_back_2 3 0 rfl rfl ?_
  refine q_callV (k := 0) (ci := 5) (n := 0) (As := []) (rest := [.int (nI 0), .ref o]) (Rr := [[(o, .inl (cJ, 1, .inr (.inl g)))]]) C rfl hw rfl hM gL_back_X6_back rfl hc hs (by decide +kernel) B.1 ⟨by show _ ≤ 11; omega, by show 8 + (1 + 11) + _ ≤ 430; omega⟩ rfl rfl (Nat.le_of_ble_eq_true rfl) dL_back_3 ⟨by show 0 + mc ≤ mc; omega, by show 0 + ms ≤ ms; omega⟩ [0] [1] (by decide : ([0] ++ ([1] : List Nat)).Perm (List.range 2)) rfl rfl 6 rfl (fun v0 R0 t0 ht0 hp0 => ?_)
  obtain rfl := hp _ _ _ hp0
  refine q_eqs (st' := [.int r, .int (nI 0), .ref o]) rfl ?_
  refine q_resp (Rs' := [R0.flatten, [(o, .inl (cJ, 1, .inr (.inl g)))]]) (by simp) ?_
  refine q_eqn (cells' := mc) (slots' := ms) (by omega) (by omega) ?_
  refine q_i2l (v := r.toInt64) C dL_back_6 7 rfl rfl ?_
  refine q_last (k := 1) (j := 0) C dL_back_7 8 rfl rfl rfl hJ 0 rfl (by decide) (by decide) [R0.flatten, [(o, .inl (cJ, 1, .inr (.inl (va_up g 0 r.toInt64))))]] rfl ?_
  refine q_goto C dL_back_8 14 (by decide) ?_
  refine q_iconst (v := nI 0) C dL_back_14 15 rfl (by decide) ?_
  exact q_iret C B dL_back_15 rfl rfl (fun t1 ht1 => ⟨rfl, R0, t0, hp0, rfl⟩)

set_option maxHeartbeats 400000 in
theorem c_L_back_x1 (l : Launch) {D : va_G} {tys : List (ClassId × FieldType)} {Z : (Nat → Prop) → State → Heap → Prop} (hZ : q_St Z) {cJ : ClassId} (hJ : tys[2]? = some (cJ, .long)) (hXs : q_Xs Z) (x o : Nat) {rm : Room} {w : va_W} (hw : ∃ fs : List Value, w[0]? = some (x, .inr (5, fs))) (hM : q_Xt l D tys Z yX6_back wsX6_back rm 1 6 [.ref x] [w] "java/lang/IllegalStateException") (hf : rm.frames ≤ 10) (hlo : rm.locals ≤ 400) (hc : rm.cells = 1) (hs : rm.slots = 6) (g : Nat → Int64) : q_Ct l D tys Z yL_back wsL_back { frames := 11, cells := 1, slots := 6, locals := 430 } 1 6 [.ref x, .ref o] [w, [(o, .inl (cJ, 1, .inr (.inl g)))]] (fun v0 R0 _ => v0 = some (.int (nI 1)) ∧ R0 = [w, [(o, .inl (cJ, 1, .inr (.inl g)))]]) := by
  refine q_ctW (cc := cL_back) (maxL := 3) (ret := some .int) (own := RL) (hh := [(0, 8, 11, 15)]) (by decide) rfl hZ (Nat.le_of_ble_eq_true rfl) rfl ?_
  intro p9 e9 R s9 m9 args below meth c9 A Q C B TB
  have hts := C.2.2.2.2.1
  refine q_eqL (L' := [(0, .ref x), (1, .ref o)]) rfl ?_
  refine q_aload_n C dL_back_0 1 1 rfl rfl ?_
  refine q_iconst (v := nI 0) C dL_back_1 2 rfl (by decide) ?_
  refine q_aload_n C dL_back_2 3 0 rfl rfl ?_
  refine q_callXV (k := 0) (ci := 5) (n := 0) (As := []) (rest := [.int (nI 0), .ref o]) (Rr := [[(o, .inl (cJ, 1, .inr (.inl g)))]]) C rfl hw rfl hM gL_back_X6_back rfl hc hs (by decide +kernel) B.1 ⟨by show _ ≤ 11; omega, by show 8 + (1 + 11) + _ ≤ 430; omega⟩ rfl rfl (Nat.le_of_ble_eq_true rfl) dL_back_3 ⟨by show 0 + 1 ≤ 1; omega, by show 0 + 6 ≤ 6; omega⟩ [0] [1] (by decide : ([0] ++ ([1] : List Nat)).Perm (List.range 2)) rfl rfl
    [] ⟨0, 8, 11, 15⟩ [] (TB.trans rfl) (fun z hz => nomatch hz) (by decide) (by decide) (hts (.classLink RL 15 "java/lang/IllegalStateException") (by decide +kernel)) (va_Nw.use rfl ((hXs _ _ _ C.2.2.2.2.2.2.2.1).1 (.castable "java/lang/IllegalStateException" "java/lang/IllegalStateException") (by decide +kernel))) 11 rfl (fun q9 => ?_)
  refine q_astore_n C dL_back_11 12 rfl [(2, .ref q9), (0, .ref x), (1, .ref o)] (by decide) rfl ?_
  refine q_iconst (v := nI 1) C dL_back_12 13 rfl (by decide) ?_
  exact q_iret C B dL_back_13 rfl rfl (fun t1 ht1 => ⟨rfl, rfl⟩)

set_option maxHeartbeats 400000 in
theorem c_L_swap_ok (l : Launch) {D : va_G} {tys : List (ClassId × FieldType)} {Z : (Nat → Prop) → State → Heap → Prop} (hZ : q_St Z) {cJ : ClassId} (hJ : tys[2]? = some (cJ, .long)) (x o : Nat) (v : Int32) (v2 : Int32) {rm : Room} {mc ms : Nat} {r : Int32} {w : va_W} (hw : ∃ fs : List Value, w[0]? = some (x, .inr (5, fs))) {Post : Option Value → List va_W → State → Prop} (hM : q_Ct l D tys Z yX6_swap wsX6_swap rm mc ms [.ref x, .int v, .int v2] [w] Post) (hf : rm.frames ≤ 10) (hlo : rm.locals ≤ 400) (hc : rm.cells = mc) (hs : rm.slots = ms) (hp : ∀ v0 R t, Post v0 R t → v0 = some (.int r)) (g : Nat → Int64) : q_Ct l D tys Z yL_swap wsL_swap { frames := 11, cells := mc, slots := ms, locals := 430 } mc ms [.ref x, .int v, .int v2, .ref o] [w, [(o, .inl (cJ, 1, .inr (.inl g)))]] (fun v0 R0 _ => v0 = some (.int (nI 0)) ∧ ∃ R t, Post (some (.int r)) R t ∧ R0 = [R.flatten, [(o, .inl (cJ, 1, .inr (.inl (va_up g 0 r.toInt64))))]]) := by
  refine q_ctW (cc := cL_swap) (maxL := 5) (ret := some .int) (own := RL) (hh := [(0, 10, 13, 13)]) (by decide) rfl hZ (Nat.le_of_ble_eq_true rfl) rfl ?_
  intro p9 e9 R s9 m9 args below meth c9 A Q C B TB
  have hts := C.2.2.2.2.1
  refine q_eqL (L' := [(0, .ref x), (1, .int v), (2, .int v2), (3, .ref o)]) rfl ?_
  refine q_aload_n C dL_swap_0 1 3 rfl rfl ?_
  refine q_iconst (v := nI 0) C dL_swap_1 2 rfl (by decide) ?_
  refine q_aload_n C dL_swap_2 3 0 rfl rfl ?_
  refine q_iload_n C dL_swap_3 4 1 rfl rfl ?_
  refine q_iload_n C dL_swap_4 5 2 rfl rfl ?_
  refine q_callV (k := 0) (ci := 5) (n := 2) (As := [.int v, .int v2]) (rest := [.int (nI 0), .ref o]) (Rr := [[(o, .inl (cJ, 1, .inr (.inl g)))]]) C rfl hw rfl hM gL_swap_X6_swap rfl hc hs (by decide +kernel) B.1 ⟨by show _ ≤ 11; omega, by show 8 + (3 + 11) + _ ≤ 430; omega⟩ rfl rfl (Nat.le_of_ble_eq_true rfl) dL_swap_5 ⟨by show 0 + mc ≤ mc; omega, by show 0 + ms ≤ ms; omega⟩ [0] [1] (by decide : ([0] ++ ([1] : List Nat)).Perm (List.range 2)) rfl rfl 8 rfl (fun v0 R0 t0 ht0 hp0 => ?_)
  obtain rfl := hp _ _ _ hp0
  refine q_eqs (st' := [.int r, .int (nI 0), .ref o]) rfl ?_
  refine q_resp (Rs' := [R0.flatten, [(o, .inl (cJ, 1, .inr (.inl g)))]]) (by simp) ?_
  refine q_eqn (cells' := mc) (slots' := ms) (by omega) (by omega) ?_
  refine q_i2l (v := r.toInt64) C dL_swap_8 9 rfl rfl ?_
  refine q_last (k := 1) (j := 0) C dL_swap_9 10 rfl rfl rfl hJ 0 rfl (by decide) (by decide) [R0.flatten, [(o, .inl (cJ, 1, .inr (.inl (va_up g 0 r.toInt64))))]] rfl ?_
  refine q_goto C dL_swap_10 17 (by decide) ?_
  refine q_iconst (v := nI 0) C dL_swap_17 18 rfl (by decide) ?_
  exact q_iret C B dL_swap_18 rfl rfl (fun t1 ht1 => ⟨rfl, R0, t0, hp0, rfl⟩)

set_option maxHeartbeats 400000 in
theorem c_L_swap_x1 (l : Launch) {D : va_G} {tys : List (ClassId × FieldType)} {Z : (Nat → Prop) → State → Heap → Prop} (hZ : q_St Z) {cJ : ClassId} (hJ : tys[2]? = some (cJ, .long)) (hXs : q_Xs Z) (x o : Nat) (v : Int32) (v2 : Int32) {rm : Room} {w : va_W} (hw : ∃ fs : List Value, w[0]? = some (x, .inr (5, fs))) (hM : q_Xt l D tys Z yX6_swap wsX6_swap rm 1 6 [.ref x, .int v, .int v2] [w] "java/lang/IndexOutOfBoundsException") (hf : rm.frames ≤ 10) (hlo : rm.locals ≤ 400) (hc : rm.cells = 1) (hs : rm.slots = 6) (g : Nat → Int64) : q_Ct l D tys Z yL_swap wsL_swap { frames := 11, cells := 1, slots := 6, locals := 430 } 1 6 [.ref x, .int v, .int v2, .ref o] [w, [(o, .inl (cJ, 1, .inr (.inl g)))]] (fun v0 R0 _ => v0 = some (.int (nI 1)) ∧ R0 = [w, [(o, .inl (cJ, 1, .inr (.inl g)))]]) := by
  refine q_ctW (cc := cL_swap) (maxL := 5) (ret := some .int) (own := RL) (hh := [(0, 10, 13, 13)]) (by decide) rfl hZ (Nat.le_of_ble_eq_true rfl) rfl ?_
  intro p9 e9 R s9 m9 args below meth c9 A Q C B TB
  have hts := C.2.2.2.2.1
  refine q_eqL (L' := [(0, .ref x), (1, .int v), (2, .int v2), (3, .ref o)]) rfl ?_
  refine q_aload_n C dL_swap_0 1 3 rfl rfl ?_
  refine q_iconst (v := nI 0) C dL_swap_1 2 rfl (by decide) ?_
  refine q_aload_n C dL_swap_2 3 0 rfl rfl ?_
  refine q_iload_n C dL_swap_3 4 1 rfl rfl ?_
  refine q_iload_n C dL_swap_4 5 2 rfl rfl ?_
  refine q_callXV (k := 0) (ci := 5) (n := 2) (As := [.int v, .int v2]) (rest := [.int (nI 0), .ref o]) (Rr := [[(o, .inl (cJ, 1, .inr (.inl g)))]]) C rfl hw rfl hM gL_swap_X6_swap rfl hc hs (by decide +kernel) B.1 ⟨by show _ ≤ 11; omega, by show 8 + (3 + 11) + _ ≤ 430; omega⟩ rfl rfl (Nat.le_of_ble_eq_true rfl) dL_swap_5 ⟨by show 0 + 1 ≤ 1; omega, by show 0 + 6 ≤ 6; omega⟩ [0] [1] (by decide : ([0] ++ ([1] : List Nat)).Perm (List.range 2)) rfl rfl
    [] ⟨0, 10, 13, 13⟩ [] (TB.trans rfl) (fun z hz => nomatch hz) (by decide) (by decide) (hts (.classLink RL 13 "java/lang/IndexOutOfBoundsException") (by decide +kernel)) (va_Nw.use rfl ((hXs _ _ _ C.2.2.2.2.2.2.2.1).1 (.castable "java/lang/IndexOutOfBoundsException" "java/lang/IndexOutOfBoundsException") (by decide +kernel))) 13 rfl (fun q9 => ?_)
  refine q_astore C dL_swap_13 15 rfl [(4, .ref q9), (0, .ref x), (1, .int v), (2, .int v2), (3, .ref o)] (by decide) rfl ?_
  refine q_iconst (v := nI 1) C dL_swap_15 16 rfl (by decide) ?_
  exact q_iret C B dL_swap_16 rfl rfl (fun t1 ht1 => ⟨rfl, rfl⟩)

set_option maxHeartbeats 400000 in
theorem c_L_change_ok (l : Launch) {D : va_G} {tys : List (ClassId × FieldType)} {Z : (Nat → Prop) → State → Heap → Prop} (hZ : q_St Z) {cJ : ClassId} (hJ : tys[2]? = some (cJ, .long)) (x o : Nat) (v : Int32) (v2 : Int32) {rm : Room} {mc ms : Nat} {r : Int32} {w : va_W} (hw : ∃ fs : List Value, w[0]? = some (x, .inr (5, fs))) {Post : Option Value → List va_W → State → Prop} (hM : q_Ct l D tys Z yX6_change wsX6_change rm mc ms [.ref x, .int v, .int v2] [w] Post) (hf : rm.frames ≤ 10) (hlo : rm.locals ≤ 400) (hc : rm.cells = mc) (hs : rm.slots = ms) (hp : ∀ v0 R t, Post v0 R t → v0 = some (.int r)) (g : Nat → Int64) : q_Ct l D tys Z yL_change wsL_change { frames := 11, cells := mc, slots := ms, locals := 430 } mc ms [.ref x, .int v, .int v2, .ref o] [w, [(o, .inl (cJ, 1, .inr (.inl g)))]] (fun v0 R0 _ => v0 = some (.int (nI 0)) ∧ ∃ R t, Post (some (.int r)) R t ∧ R0 = [R.flatten, [(o, .inl (cJ, 1, .inr (.inl (va_up g 0 r.toInt64))))]]) := by
  refine q_ctW (cc := cL_change) (maxL := 5) (ret := some .int) (own := RL) (hh := [(0, 10, 13, 13), (0, 10, 17, 20)]) (by decide) rfl hZ (Nat.le_of_ble_eq_true rfl) rfl ?_
  intro p9 e9 R s9 m9 args below meth c9 A Q C B TB
  have hts := C.2.2.2.2.1
  refine q_eqL (L' := [(0, .ref x), (1, .int v), (2, .int v2), (3, .ref o)]) rfl ?_
  refine q_aload_n C dL_change_0 1 3 rfl rfl ?_
  refine q_iconst (v := nI 0) C dL_change_1 2 rfl (by decide) ?_
  refine q_aload_n C dL_change_2 3 0 rfl rfl ?_
  refine q_iload_n C dL_change_3 4 1 rfl rfl ?_
  refine q_iload_n C dL_change_4 5 2 rfl rfl ?_
  refine q_callV (k := 0) (ci := 5) (n := 2) (As := [.int v, .int v2]) (rest := [.int (nI 0), .ref o]) (Rr := [[(o, .inl (cJ, 1, .inr (.inl g)))]]) C rfl hw rfl hM gL_change_X6_change rfl hc hs (by decide +kernel) B.1 ⟨by show _ ≤ 11; omega, by show 8 + (3 + 11) + _ ≤ 430; omega⟩ rfl rfl (Nat.le_of_ble_eq_true rfl) dL_change_5 ⟨by show 0 + mc ≤ mc; omega, by show 0 + ms ≤ ms; omega⟩ [0] [1] (by decide : ([0] ++ ([1] : List Nat)).Perm (List.range 2)) rfl rfl 8 rfl (fun v0 R0 t0 ht0 hp0 => ?_)
  obtain rfl := hp _ _ _ hp0
  refine q_eqs (st' := [.int r, .int (nI 0), .ref o]) rfl ?_
  refine q_resp (Rs' := [R0.flatten, [(o, .inl (cJ, 1, .inr (.inl g)))]]) (by simp) ?_
  refine q_eqn (cells' := mc) (slots' := ms) (by omega) (by omega) ?_
  refine q_i2l (v := r.toInt64) C dL_change_8 9 rfl rfl ?_
  refine q_last (k := 1) (j := 0) C dL_change_9 10 rfl rfl rfl hJ 0 rfl (by decide) (by decide) [R0.flatten, [(o, .inl (cJ, 1, .inr (.inl (va_up g 0 r.toInt64))))]] rfl ?_
  refine q_goto C dL_change_10 21 (by decide) ?_
  refine q_iconst (v := nI 0) C dL_change_21 22 rfl (by decide) ?_
  exact q_iret C B dL_change_22 rfl rfl (fun t1 ht1 => ⟨rfl, R0, t0, hp0, rfl⟩)

set_option maxHeartbeats 400000 in
theorem c_L_change_x1 (l : Launch) {D : va_G} {tys : List (ClassId × FieldType)} {Z : (Nat → Prop) → State → Heap → Prop} (hZ : q_St Z) {cJ : ClassId} (hJ : tys[2]? = some (cJ, .long)) (hXs : q_Xs Z) (x o : Nat) (v : Int32) (v2 : Int32) {rm : Room} {w : va_W} (hw : ∃ fs : List Value, w[0]? = some (x, .inr (5, fs))) (hM : q_Xt l D tys Z yX6_change wsX6_change rm 1 6 [.ref x, .int v, .int v2] [w] "java/lang/IndexOutOfBoundsException") (hf : rm.frames ≤ 10) (hlo : rm.locals ≤ 400) (hc : rm.cells = 1) (hs : rm.slots = 6) (g : Nat → Int64) : q_Ct l D tys Z yL_change wsL_change { frames := 11, cells := 1, slots := 6, locals := 430 } 1 6 [.ref x, .int v, .int v2, .ref o] [w, [(o, .inl (cJ, 1, .inr (.inl g)))]] (fun v0 R0 _ => v0 = some (.int (nI 1)) ∧ R0 = [w, [(o, .inl (cJ, 1, .inr (.inl g)))]]) := by
  refine q_ctW (cc := cL_change) (maxL := 5) (ret := some .int) (own := RL) (hh := [(0, 10, 13, 13), (0, 10, 17, 20)]) (by decide) rfl hZ (Nat.le_of_ble_eq_true rfl) rfl ?_
  intro p9 e9 R s9 m9 args below meth c9 A Q C B TB
  have hts := C.2.2.2.2.1
  refine q_eqL (L' := [(0, .ref x), (1, .int v), (2, .int v2), (3, .ref o)]) rfl ?_
  refine q_aload_n C dL_change_0 1 3 rfl rfl ?_
  refine q_iconst (v := nI 0) C dL_change_1 2 rfl (by decide) ?_
  refine q_aload_n C dL_change_2 3 0 rfl rfl ?_
  refine q_iload_n C dL_change_3 4 1 rfl rfl ?_
  refine q_iload_n C dL_change_4 5 2 rfl rfl ?_
  refine q_callXV (k := 0) (ci := 5) (n := 2) (As := [.int v, .int v2]) (rest := [.int (nI 0), .ref o]) (Rr := [[(o, .inl (cJ, 1, .inr (.inl g)))]]) C rfl hw rfl hM gL_change_X6_change rfl hc hs (by decide +kernel) B.1 ⟨by show _ ≤ 11; omega, by show 8 + (3 + 11) + _ ≤ 430; omega⟩ rfl rfl (Nat.le_of_ble_eq_true rfl) dL_change_5 ⟨by show 0 + 1 ≤ 1; omega, by show 0 + 6 ≤ 6; omega⟩ [0] [1] (by decide : ([0] ++ ([1] : List Nat)).Perm (List.range 2)) rfl rfl
    [] ⟨0, 10, 13, 13⟩ [⟨0, 10, 17, 20⟩] (TB.trans rfl) (fun z hz => nomatch hz) (by decide) (by decide) (hts (.classLink RL 13 "java/lang/IndexOutOfBoundsException") (by decide +kernel)) (va_Nw.use rfl ((hXs _ _ _ C.2.2.2.2.2.2.2.1).1 (.castable "java/lang/IndexOutOfBoundsException" "java/lang/IndexOutOfBoundsException") (by decide +kernel))) 13 rfl (fun q9 => ?_)
  refine q_astore C dL_change_13 15 rfl [(4, .ref q9), (0, .ref x), (1, .int v), (2, .int v2), (3, .ref o)] (by decide) rfl ?_
  refine q_iconst (v := nI 1) C dL_change_15 16 rfl (by decide) ?_
  exact q_iret C B dL_change_16 rfl rfl (fun t1 ht1 => ⟨rfl, rfl⟩)

set_option maxHeartbeats 400000 in
theorem c_L_change_x2 (l : Launch) {D : va_G} {tys : List (ClassId × FieldType)} {Z : (Nat → Prop) → State → Heap → Prop} (hZ : q_St Z) {cJ : ClassId} (hJ : tys[2]? = some (cJ, .long)) (hXs : q_Xs Z) (x o : Nat) (v : Int32) (v2 : Int32) {rm : Room} {w : va_W} (hw : ∃ fs : List Value, w[0]? = some (x, .inr (5, fs))) (hM : q_Xt l D tys Z yX6_change wsX6_change rm 1 6 [.ref x, .int v, .int v2] [w] "java/lang/IllegalArgumentException") (hf : rm.frames ≤ 10) (hlo : rm.locals ≤ 400) (hc : rm.cells = 1) (hs : rm.slots = 6) (g : Nat → Int64) : q_Ct l D tys Z yL_change wsL_change { frames := 11, cells := 1, slots := 6, locals := 430 } 1 6 [.ref x, .int v, .int v2, .ref o] [w, [(o, .inl (cJ, 1, .inr (.inl g)))]] (fun v0 R0 _ => v0 = some (.int (nI 2)) ∧ R0 = [w, [(o, .inl (cJ, 1, .inr (.inl g)))]]) := by
  refine q_ctW (cc := cL_change) (maxL := 5) (ret := some .int) (own := RL) (hh := [(0, 10, 13, 13), (0, 10, 17, 20)]) (by decide) rfl hZ (Nat.le_of_ble_eq_true rfl) rfl ?_
  intro p9 e9 R s9 m9 args below meth c9 A Q C B TB
  have hts := C.2.2.2.2.1
  refine q_eqL (L' := [(0, .ref x), (1, .int v), (2, .int v2), (3, .ref o)]) rfl ?_
  refine q_aload_n C dL_change_0 1 3 rfl rfl ?_
  refine q_iconst (v := nI 0) C dL_change_1 2 rfl (by decide) ?_
  refine q_aload_n C dL_change_2 3 0 rfl rfl ?_
  refine q_iload_n C dL_change_3 4 1 rfl rfl ?_
  refine q_iload_n C dL_change_4 5 2 rfl rfl ?_
  refine q_callXV (k := 0) (ci := 5) (n := 2) (As := [.int v, .int v2]) (rest := [.int (nI 0), .ref o]) (Rr := [[(o, .inl (cJ, 1, .inr (.inl g)))]]) C rfl hw rfl hM gL_change_X6_change rfl hc hs (by decide +kernel) B.1 ⟨by show _ ≤ 11; omega, by show 8 + (3 + 11) + _ ≤ 430; omega⟩ rfl rfl (Nat.le_of_ble_eq_true rfl) dL_change_5 ⟨by show 0 + 1 ≤ 1; omega, by show 0 + 6 ≤ 6; omega⟩ [0] [1] (by decide : ([0] ++ ([1] : List Nat)).Perm (List.range 2)) rfl rfl
    [⟨0, 10, 13, 13⟩] ⟨0, 10, 17, 20⟩ [] (TB.trans rfl) (fun z hz => by cases List.mem_singleton.mp hz; exact Or.inr ⟨by decide, "java/lang/IndexOutOfBoundsException", hts (.classLink RL 13 "java/lang/IndexOutOfBoundsException") (by decide +kernel), (hXs _ _ _ C.2.2.2.2.2.2.2.1).2.2.2 ("java/lang/IllegalArgumentException", "java/lang/IndexOutOfBoundsException") (by decide)⟩) (by decide) (by decide) (hts (.classLink RL 20 "java/lang/IllegalArgumentException") (by decide +kernel)) (va_Nw.use rfl ((hXs _ _ _ C.2.2.2.2.2.2.2.1).1 (.castable "java/lang/IllegalArgumentException" "java/lang/IllegalArgumentException") (by decide +kernel))) 17 rfl (fun q9 => ?_)
  refine q_astore C dL_change_17 19 rfl [(4, .ref q9), (0, .ref x), (1, .int v), (2, .int v2), (3, .ref o)] (by decide) rfl ?_
  refine q_iconst (v := nI 2) C dL_change_19 20 rfl (by decide) ?_
  exact q_iret C B dL_change_20 rfl rfl (fun t1 ht1 => ⟨rfl, rfl⟩)

set_option maxHeartbeats 400000 in
theorem c_L_append_ok (l : Launch) {D : va_G} {tys : List (ClassId × FieldType)} {Z : (Nat → Prop) → State → Heap → Prop} (hZ : q_St Z) {cJ : ClassId} (hJ : tys[2]? = some (cJ, .long)) (x o : Nat) (v : Int32) {rm : Room} {mc ms : Nat} {r : Int32} {w : va_W} (hw : ∃ fs : List Value, w[0]? = some (x, .inr (5, fs))) {Post : Option Value → List va_W → State → Prop} (hM : q_Ct l D tys Z yX6_append wsX6_append rm mc ms [.ref x, .int v] [w] Post) (hf : rm.frames ≤ 10) (hlo : rm.locals ≤ 400) (hc : rm.cells = mc) (hs : rm.slots = ms) (hp : ∀ v0 R t, Post v0 R t → v0 = some (.int r)) (g : Nat → Int64) : q_Ct l D tys Z yL_append wsL_append { frames := 11, cells := mc, slots := ms, locals := 430 } mc ms [.ref x, .int v, .ref o] [w, [(o, .inl (cJ, 1, .inr (.inl g)))]] (fun v0 R0 _ => v0 = some (.int (nI 0)) ∧ ∃ R t, Post (some (.int r)) R t ∧ R0 = [R.flatten, [(o, .inl (cJ, 1, .inr (.inl (va_up g 0 r.toInt64))))]]) := by
  refine q_ctW (cc := cL_append) (maxL := 4) (ret := some .int) (own := RL) (hh := [(0, 9, 12, 20), (0, 9, 15, 15)]) (by decide) rfl hZ (Nat.le_of_ble_eq_true rfl) rfl ?_
  intro p9 e9 R s9 m9 args below meth c9 A Q C B TB
  have hts := C.2.2.2.2.1
  refine q_eqL (L' := [(0, .ref x), (1, .int v), (2, .ref o)]) rfl ?_
  refine q_aload_n C dL_append_0 1 2 rfl rfl ?_
  refine q_iconst (v := nI 0) C dL_append_1 2 rfl (by decide) ?_
  refine q_aload_n C dL_append_2 3 0 rfl rfl ?_
  refine q_iload_n C dL_append_3 4 1 rfl rfl ?_
  refine q_callV (k := 0) (ci := 5) (n := 1) (As := [.int v]) (rest := [.int (nI 0), .ref o]) (Rr := [[(o, .inl (cJ, 1, .inr (.inl g)))]]) C rfl hw rfl hM gL_append_X6_append rfl hc hs (by decide +kernel) B.1 ⟨by show _ ≤ 11; omega, by show 8 + (2 + 11) + _ ≤ 430; omega⟩ rfl rfl (Nat.le_of_ble_eq_true rfl) dL_append_4 ⟨by show 0 + mc ≤ mc; omega, by show 0 + ms ≤ ms; omega⟩ [0] [1] (by decide : ([0] ++ ([1] : List Nat)).Perm (List.range 2)) rfl rfl 7 rfl (fun v0 R0 t0 ht0 hp0 => ?_)
  obtain rfl := hp _ _ _ hp0
  refine q_eqs (st' := [.int r, .int (nI 0), .ref o]) rfl ?_
  refine q_resp (Rs' := [R0.flatten, [(o, .inl (cJ, 1, .inr (.inl g)))]]) (by simp) ?_
  refine q_eqn (cells' := mc) (slots' := ms) (by omega) (by omega) ?_
  refine q_i2l (v := r.toInt64) C dL_append_7 8 rfl rfl ?_
  refine q_last (k := 1) (j := 0) C dL_append_8 9 rfl rfl rfl hJ 0 rfl (by decide) (by decide) [R0.flatten, [(o, .inl (cJ, 1, .inr (.inl (va_up g 0 r.toInt64))))]] rfl ?_
  refine q_goto C dL_append_9 18 (by decide) ?_
  refine q_iconst (v := nI 0) C dL_append_18 19 rfl (by decide) ?_
  exact q_iret C B dL_append_19 rfl rfl (fun t1 ht1 => ⟨rfl, R0, t0, hp0, rfl⟩)

set_option maxHeartbeats 400000 in
theorem c_L_append_x1 (l : Launch) {D : va_G} {tys : List (ClassId × FieldType)} {Z : (Nat → Prop) → State → Heap → Prop} (hZ : q_St Z) {cJ : ClassId} (hJ : tys[2]? = some (cJ, .long)) (hXs : q_Xs Z) (x o : Nat) (v : Int32) {rm : Room} {w : va_W} (hw : ∃ fs : List Value, w[0]? = some (x, .inr (5, fs))) (hM : q_Xt l D tys Z yX6_append wsX6_append rm 1 6 [.ref x, .int v] [w] "java/lang/IllegalArgumentException") (hf : rm.frames ≤ 10) (hlo : rm.locals ≤ 400) (hc : rm.cells = 1) (hs : rm.slots = 6) (g : Nat → Int64) : q_Ct l D tys Z yL_append wsL_append { frames := 11, cells := 1, slots := 6, locals := 430 } 1 6 [.ref x, .int v, .ref o] [w, [(o, .inl (cJ, 1, .inr (.inl g)))]] (fun v0 R0 _ => v0 = some (.int (nI 1)) ∧ R0 = [w, [(o, .inl (cJ, 1, .inr (.inl g)))]]) := by
  refine q_ctW (cc := cL_append) (maxL := 4) (ret := some .int) (own := RL) (hh := [(0, 9, 12, 20), (0, 9, 15, 15)]) (by decide) rfl hZ (Nat.le_of_ble_eq_true rfl) rfl ?_
  intro p9 e9 R s9 m9 args below meth c9 A Q C B TB
  have hts := C.2.2.2.2.1
  refine q_eqL (L' := [(0, .ref x), (1, .int v), (2, .ref o)]) rfl ?_
  refine q_aload_n C dL_append_0 1 2 rfl rfl ?_
  refine q_iconst (v := nI 0) C dL_append_1 2 rfl (by decide) ?_
  refine q_aload_n C dL_append_2 3 0 rfl rfl ?_
  refine q_iload_n C dL_append_3 4 1 rfl rfl ?_
  refine q_callXV (k := 0) (ci := 5) (n := 1) (As := [.int v]) (rest := [.int (nI 0), .ref o]) (Rr := [[(o, .inl (cJ, 1, .inr (.inl g)))]]) C rfl hw rfl hM gL_append_X6_append rfl hc hs (by decide +kernel) B.1 ⟨by show _ ≤ 11; omega, by show 8 + (2 + 11) + _ ≤ 430; omega⟩ rfl rfl (Nat.le_of_ble_eq_true rfl) dL_append_4 ⟨by show 0 + 1 ≤ 1; omega, by show 0 + 6 ≤ 6; omega⟩ [0] [1] (by decide : ([0] ++ ([1] : List Nat)).Perm (List.range 2)) rfl rfl
    [] ⟨0, 9, 12, 20⟩ [⟨0, 9, 15, 15⟩] (TB.trans rfl) (fun z hz => nomatch hz) (by decide) (by decide) (hts (.classLink RL 20 "java/lang/IllegalArgumentException") (by decide +kernel)) (va_Nw.use rfl ((hXs _ _ _ C.2.2.2.2.2.2.2.1).1 (.castable "java/lang/IllegalArgumentException" "java/lang/IllegalArgumentException") (by decide +kernel))) 12 rfl (fun q9 => ?_)
  refine q_astore_n C dL_append_12 13 rfl [(3, .ref q9), (0, .ref x), (1, .int v), (2, .ref o)] (by decide) rfl ?_
  refine q_iconst (v := nI 1) C dL_append_13 14 rfl (by decide) ?_
  exact q_iret C B dL_append_14 rfl rfl (fun t1 ht1 => ⟨rfl, rfl⟩)

set_option maxHeartbeats 400000 in
theorem c_L_append_x2 (l : Launch) {D : va_G} {tys : List (ClassId × FieldType)} {Z : (Nat → Prop) → State → Heap → Prop} (hZ : q_St Z) {cJ : ClassId} (hJ : tys[2]? = some (cJ, .long)) (hXs : q_Xs Z) (x o : Nat) (v : Int32) {rm : Room} {w : va_W} (hw : ∃ fs : List Value, w[0]? = some (x, .inr (5, fs))) (hM : q_Xt l D tys Z yX6_append wsX6_append rm 1 6 [.ref x, .int v] [w] "java/lang/IllegalStateException") (hf : rm.frames ≤ 10) (hlo : rm.locals ≤ 400) (hc : rm.cells = 1) (hs : rm.slots = 6) (g : Nat → Int64) : q_Ct l D tys Z yL_append wsL_append { frames := 11, cells := 1, slots := 6, locals := 430 } 1 6 [.ref x, .int v, .ref o] [w, [(o, .inl (cJ, 1, .inr (.inl g)))]] (fun v0 R0 _ => v0 = some (.int (nI 2)) ∧ R0 = [w, [(o, .inl (cJ, 1, .inr (.inl g)))]]) := by
  refine q_ctW (cc := cL_append) (maxL := 4) (ret := some .int) (own := RL) (hh := [(0, 9, 12, 20), (0, 9, 15, 15)]) (by decide) rfl hZ (Nat.le_of_ble_eq_true rfl) rfl ?_
  intro p9 e9 R s9 m9 args below meth c9 A Q C B TB
  have hts := C.2.2.2.2.1
  refine q_eqL (L' := [(0, .ref x), (1, .int v), (2, .ref o)]) rfl ?_
  refine q_aload_n C dL_append_0 1 2 rfl rfl ?_
  refine q_iconst (v := nI 0) C dL_append_1 2 rfl (by decide) ?_
  refine q_aload_n C dL_append_2 3 0 rfl rfl ?_
  refine q_iload_n C dL_append_3 4 1 rfl rfl ?_
  refine q_callXV (k := 0) (ci := 5) (n := 1) (As := [.int v]) (rest := [.int (nI 0), .ref o]) (Rr := [[(o, .inl (cJ, 1, .inr (.inl g)))]]) C rfl hw rfl hM gL_append_X6_append rfl hc hs (by decide +kernel) B.1 ⟨by show _ ≤ 11; omega, by show 8 + (2 + 11) + _ ≤ 430; omega⟩ rfl rfl (Nat.le_of_ble_eq_true rfl) dL_append_4 ⟨by show 0 + 1 ≤ 1; omega, by show 0 + 6 ≤ 6; omega⟩ [0] [1] (by decide : ([0] ++ ([1] : List Nat)).Perm (List.range 2)) rfl rfl
    [⟨0, 9, 12, 20⟩] ⟨0, 9, 15, 15⟩ [] (TB.trans rfl) (fun z hz => by cases List.mem_singleton.mp hz; exact Or.inr ⟨by decide, "java/lang/IllegalArgumentException", hts (.classLink RL 20 "java/lang/IllegalArgumentException") (by decide +kernel), (hXs _ _ _ C.2.2.2.2.2.2.2.1).2.2.2 ("java/lang/IllegalStateException", "java/lang/IllegalArgumentException") (by decide)⟩) (by decide) (by decide) (hts (.classLink RL 15 "java/lang/IllegalStateException") (by decide +kernel)) (va_Nw.use rfl ((hXs _ _ _ C.2.2.2.2.2.2.2.1).1 (.castable "java/lang/IllegalStateException" "java/lang/IllegalStateException") (by decide +kernel))) 15 rfl (fun q9 => ?_)
  refine q_astore_n C dL_append_15 16 rfl [(3, .ref q9), (0, .ref x), (1, .int v), (2, .ref o)] (by decide) rfl ?_
  refine q_iconst (v := nI 2) C dL_append_16 17 rfl (by decide) ?_
  exact q_iret C B dL_append_17 rfl rfl (fun t1 ht1 => ⟨rfl, rfl⟩)

set_option maxHeartbeats 400000 in
theorem c_L_work_ok (l : Launch) {D : va_G} {tys : List (ClassId × FieldType)} {Z : (Nat → Prop) → State → Heap → Prop} (hZ : q_St Z) {cJ : ClassId} (hJ : tys[2]? = some (cJ, .long)) (x o : Nat) {rm : Room} {mc ms : Nat} {r : Int32} {w : va_W} (hw : ∃ fs : List Value, w[0]? = some (x, .inr (5, fs))) {Post : Option Value → List va_W → State → Prop} (hM : q_Ct l D tys Z yX6_work wsX6_work rm mc ms [.ref x] [w] Post) (hf : rm.frames ≤ 10) (hlo : rm.locals ≤ 400) (hc : rm.cells = mc) (hs : rm.slots = ms) (hp : ∀ v0 R t, Post v0 R t → v0 = some (.int r)) (g : Nat → Int64) : q_Ct l D tys Z yL_work wsL_work { frames := 11, cells := mc, slots := ms, locals := 430 } mc ms [.ref x, .ref o] [w, [(o, .inl (cJ, 1, .inr (.inl g)))]] (fun v0 R0 _ => v0 = some (.int (nI 0)) ∧ ∃ R t, Post (some (.int r)) R t ∧ R0 = [R.flatten, [(o, .inl (cJ, 1, .inr (.inl (va_up g 0 r.toInt64))))]]) := by
  refine q_ctW (cc := cL_work) (maxL := 3) (ret := some .int) (own := RL) (hh := [(0, 8, 11, 20)]) (by decide) rfl hZ (Nat.le_of_ble_eq_true rfl) rfl ?_
  intro p9 e9 R s9 m9 args below meth c9 A Q C B TB
  have hts := C.2.2.2.2.1
  refine q_eqL (L' := [(0, .ref x), (1, .ref o)]) rfl ?_
  refine q_aload_n C dL_work_0 1 1 rfl rfl ?_
  refine q_iconst (v := nI 0) C dL_work_1 2 rfl (by decide) ?_
  refine q_aload_n C dL_work_2 3 0 rfl rfl ?_
  refine q_callV (k := 0) (ci := 5) (n := 0) (As := []) (rest := [.int (nI 0), .ref o]) (Rr := [[(o, .inl (cJ, 1, .inr (.inl g)))]]) C rfl hw rfl hM gL_work_X6_work rfl hc hs (by decide +kernel) B.1 ⟨by show _ ≤ 11; omega, by show 8 + (5 + 11) + _ ≤ 430; omega⟩ rfl rfl (Nat.le_of_ble_eq_true rfl) dL_work_3 ⟨by show 0 + mc ≤ mc; omega, by show 0 + ms ≤ ms; omega⟩ [0] [1] (by decide : ([0] ++ ([1] : List Nat)).Perm (List.range 2)) rfl rfl 6 rfl (fun v0 R0 t0 ht0 hp0 => ?_)
  obtain rfl := hp _ _ _ hp0
  refine q_eqs (st' := [.int r, .int (nI 0), .ref o]) rfl ?_
  refine q_resp (Rs' := [R0.flatten, [(o, .inl (cJ, 1, .inr (.inl g)))]]) (by simp) ?_
  refine q_eqn (cells' := mc) (slots' := ms) (by omega) (by omega) ?_
  refine q_i2l (v := r.toInt64) C dL_work_6 7 rfl rfl ?_
  refine q_last (k := 1) (j := 0) C dL_work_7 8 rfl rfl rfl hJ 0 rfl (by decide) (by decide) [R0.flatten, [(o, .inl (cJ, 1, .inr (.inl (va_up g 0 r.toInt64))))]] rfl ?_
  refine q_goto C dL_work_8 14 (by decide) ?_
  refine q_iconst (v := nI 0) C dL_work_14 15 rfl (by decide) ?_
  exact q_iret C B dL_work_15 rfl rfl (fun t1 ht1 => ⟨rfl, R0, t0, hp0, rfl⟩)

set_option maxHeartbeats 400000 in
theorem c_L_work_x1 (l : Launch) {D : va_G} {tys : List (ClassId × FieldType)} {Z : (Nat → Prop) → State → Heap → Prop} (hZ : q_St Z) {cJ : ClassId} (hJ : tys[2]? = some (cJ, .long)) (hXs : q_Xs Z) (x o : Nat) {rm : Room} {w : va_W} (hw : ∃ fs : List Value, w[0]? = some (x, .inr (5, fs))) (hM : q_Xt l D tys Z yX6_work wsX6_work rm 1 6 [.ref x] [w] "java/lang/IllegalArgumentException") (hf : rm.frames ≤ 10) (hlo : rm.locals ≤ 400) (hc : rm.cells = 1) (hs : rm.slots = 6) (g : Nat → Int64) : q_Ct l D tys Z yL_work wsL_work { frames := 11, cells := 1, slots := 6, locals := 430 } 1 6 [.ref x, .ref o] [w, [(o, .inl (cJ, 1, .inr (.inl g)))]] (fun v0 R0 _ => v0 = some (.int (nI 1)) ∧ R0 = [w, [(o, .inl (cJ, 1, .inr (.inl g)))]]) := by
  refine q_ctW (cc := cL_work) (maxL := 3) (ret := some .int) (own := RL) (hh := [(0, 8, 11, 20)]) (by decide) rfl hZ (Nat.le_of_ble_eq_true rfl) rfl ?_
  intro p9 e9 R s9 m9 args below meth c9 A Q C B TB
  have hts := C.2.2.2.2.1
  refine q_eqL (L' := [(0, .ref x), (1, .ref o)]) rfl ?_
  refine q_aload_n C dL_work_0 1 1 rfl rfl ?_
  refine q_iconst (v := nI 0) C dL_work_1 2 rfl (by decide) ?_
  refine q_aload_n C dL_work_2 3 0 rfl rfl ?_
  refine q_callXV (k := 0) (ci := 5) (n := 0) (As := []) (rest := [.int (nI 0), .ref o]) (Rr := [[(o, .inl (cJ, 1, .inr (.inl g)))]]) C rfl hw rfl hM gL_work_X6_work rfl hc hs (by decide +kernel) B.1 ⟨by show _ ≤ 11; omega, by show 8 + (5 + 11) + _ ≤ 430; omega⟩ rfl rfl (Nat.le_of_ble_eq_true rfl) dL_work_3 ⟨by show 0 + 1 ≤ 1; omega, by show 0 + 6 ≤ 6; omega⟩ [0] [1] (by decide : ([0] ++ ([1] : List Nat)).Perm (List.range 2)) rfl rfl
    [] ⟨0, 8, 11, 20⟩ [] (TB.trans rfl) (fun z hz => nomatch hz) (by decide) (by decide) (hts (.classLink RL 20 "java/lang/IllegalArgumentException") (by decide +kernel)) (va_Nw.use rfl ((hXs _ _ _ C.2.2.2.2.2.2.2.1).1 (.castable "java/lang/IllegalArgumentException" "java/lang/IllegalArgumentException") (by decide +kernel))) 11 rfl (fun q9 => ?_)
  refine q_astore_n C dL_work_11 12 rfl [(2, .ref q9), (0, .ref x), (1, .ref o)] (by decide) rfl ?_
  refine q_iconst (v := nI 1) C dL_work_12 13 rfl (by decide) ?_
  exact q_iret C B dL_work_13 rfl rfl (fun t1 ht1 => ⟨rfl, rfl⟩)

set_option maxHeartbeats 400000 in
theorem c_L_stopped_ok (l : Launch) {D : va_G} {tys : List (ClassId × FieldType)} {Z : (Nat → Prop) → State → Heap → Prop} (hZ : q_St Z) {cJ : ClassId} (hJ : tys[2]? = some (cJ, .long)) (x o : Nat) (v : Int32) {rm : Room} {mc ms : Nat} {r : Int32} {w : va_W} (hw : ∃ fs : List Value, w[0]? = some (x, .inr (5, fs))) {Post : Option Value → List va_W → State → Prop} (hM : q_Ct l D tys Z yX6_stopped wsX6_stopped rm mc ms [.ref x, .int v] [w] Post) (hf : rm.frames ≤ 10) (hlo : rm.locals ≤ 400) (hc : rm.cells = mc) (hs : rm.slots = ms) (hp : ∀ v0 R t, Post v0 R t → v0 = some (.int r)) (g : Nat → Int64) : q_Ct l D tys Z yL_stopped wsL_stopped { frames := 11, cells := mc, slots := ms, locals := 430 } mc ms [.ref x, .int v, .ref o] [w, [(o, .inl (cJ, 1, .inr (.inl g)))]] (fun v0 R0 _ => v0 = some (.int (nI 0)) ∧ ∃ R t, Post (some (.int r)) R t ∧ R0 = [R.flatten, [(o, .inl (cJ, 1, .inr (.inl (va_up g 0 r.toInt64))))]]) := by
  refine q_ctW (cc := cL_stopped) (maxL := 4) (ret := some .int) (own := RL) (hh := [(0, 9, 12, 20)]) (by decide) rfl hZ (Nat.le_of_ble_eq_true rfl) rfl ?_
  intro p9 e9 R s9 m9 args below meth c9 A Q C B TB
  have hts := C.2.2.2.2.1
  refine q_eqL (L' := [(0, .ref x), (1, .int v), (2, .ref o)]) rfl ?_
  refine q_aload_n C dL_stopped_0 1 2 rfl rfl ?_
  refine q_iconst (v := nI 0) C dL_stopped_1 2 rfl (by decide) ?_
  refine q_aload_n C dL_stopped_2 3 0 rfl rfl ?_
  refine q_iload_n C dL_stopped_3 4 1 rfl rfl ?_
  refine q_callV (k := 0) (ci := 5) (n := 1) (As := [.int v]) (rest := [.int (nI 0), .ref o]) (Rr := [[(o, .inl (cJ, 1, .inr (.inl g)))]]) C rfl hw rfl hM gL_stopped_X6_stopped rfl hc hs (by decide +kernel) B.1 ⟨by show _ ≤ 11; omega, by show 8 + (2 + 11) + _ ≤ 430; omega⟩ rfl rfl (Nat.le_of_ble_eq_true rfl) dL_stopped_4 ⟨by show 0 + mc ≤ mc; omega, by show 0 + ms ≤ ms; omega⟩ [0] [1] (by decide : ([0] ++ ([1] : List Nat)).Perm (List.range 2)) rfl rfl 7 rfl (fun v0 R0 t0 ht0 hp0 => ?_)
  obtain rfl := hp _ _ _ hp0
  refine q_eqs (st' := [.int r, .int (nI 0), .ref o]) rfl ?_
  refine q_resp (Rs' := [R0.flatten, [(o, .inl (cJ, 1, .inr (.inl g)))]]) (by simp) ?_
  refine q_eqn (cells' := mc) (slots' := ms) (by omega) (by omega) ?_
  refine q_i2l (v := r.toInt64) C dL_stopped_7 8 rfl rfl ?_
  refine q_last (k := 1) (j := 0) C dL_stopped_8 9 rfl rfl rfl hJ 0 rfl (by decide) (by decide) [R0.flatten, [(o, .inl (cJ, 1, .inr (.inl (va_up g 0 r.toInt64))))]] rfl ?_
  refine q_goto C dL_stopped_9 15 (by decide) ?_
  refine q_iconst (v := nI 0) C dL_stopped_15 16 rfl (by decide) ?_
  exact q_iret C B dL_stopped_16 rfl rfl (fun t1 ht1 => ⟨rfl, R0, t0, hp0, rfl⟩)

set_option maxHeartbeats 400000 in
theorem c_L_stopped_x1 (l : Launch) {D : va_G} {tys : List (ClassId × FieldType)} {Z : (Nat → Prop) → State → Heap → Prop} (hZ : q_St Z) {cJ : ClassId} (hJ : tys[2]? = some (cJ, .long)) (hXs : q_Xs Z) (x o : Nat) (v : Int32) {rm : Room} {w : va_W} (hw : ∃ fs : List Value, w[0]? = some (x, .inr (5, fs))) (hM : q_Xt l D tys Z yX6_stopped wsX6_stopped rm 1 6 [.ref x, .int v] [w] "java/lang/IllegalArgumentException") (hf : rm.frames ≤ 10) (hlo : rm.locals ≤ 400) (hc : rm.cells = 1) (hs : rm.slots = 6) (g : Nat → Int64) : q_Ct l D tys Z yL_stopped wsL_stopped { frames := 11, cells := 1, slots := 6, locals := 430 } 1 6 [.ref x, .int v, .ref o] [w, [(o, .inl (cJ, 1, .inr (.inl g)))]] (fun v0 R0 _ => v0 = some (.int (nI 1)) ∧ R0 = [w, [(o, .inl (cJ, 1, .inr (.inl g)))]]) := by
  refine q_ctW (cc := cL_stopped) (maxL := 4) (ret := some .int) (own := RL) (hh := [(0, 9, 12, 20)]) (by decide) rfl hZ (Nat.le_of_ble_eq_true rfl) rfl ?_
  intro p9 e9 R s9 m9 args below meth c9 A Q C B TB
  have hts := C.2.2.2.2.1
  refine q_eqL (L' := [(0, .ref x), (1, .int v), (2, .ref o)]) rfl ?_
  refine q_aload_n C dL_stopped_0 1 2 rfl rfl ?_
  refine q_iconst (v := nI 0) C dL_stopped_1 2 rfl (by decide) ?_
  refine q_aload_n C dL_stopped_2 3 0 rfl rfl ?_
  refine q_iload_n C dL_stopped_3 4 1 rfl rfl ?_
  refine q_callXV (k := 0) (ci := 5) (n := 1) (As := [.int v]) (rest := [.int (nI 0), .ref o]) (Rr := [[(o, .inl (cJ, 1, .inr (.inl g)))]]) C rfl hw rfl hM gL_stopped_X6_stopped rfl hc hs (by decide +kernel) B.1 ⟨by show _ ≤ 11; omega, by show 8 + (2 + 11) + _ ≤ 430; omega⟩ rfl rfl (Nat.le_of_ble_eq_true rfl) dL_stopped_4 ⟨by show 0 + 1 ≤ 1; omega, by show 0 + 6 ≤ 6; omega⟩ [0] [1] (by decide : ([0] ++ ([1] : List Nat)).Perm (List.range 2)) rfl rfl
    [] ⟨0, 9, 12, 20⟩ [] (TB.trans rfl) (fun z hz => nomatch hz) (by decide) (by decide) (hts (.classLink RL 20 "java/lang/IllegalArgumentException") (by decide +kernel)) (va_Nw.use rfl ((hXs _ _ _ C.2.2.2.2.2.2.2.1).1 (.castable "java/lang/IllegalArgumentException" "java/lang/IllegalArgumentException") (by decide +kernel))) 12 rfl (fun q9 => ?_)
  refine q_astore_n C dL_stopped_12 13 rfl [(3, .ref q9), (0, .ref x), (1, .int v), (2, .ref o)] (by decide) rfl ?_
  refine q_iconst (v := nI 1) C dL_stopped_13 14 rfl (by decide) ?_
  exact q_iret C B dL_stopped_14 rfl rfl (fun t1 ht1 => ⟨rfl, rfl⟩)

set_option maxHeartbeats 400000 in
theorem c_L_told_ok (l : Launch) {D : va_G} {tys : List (ClassId × FieldType)} {Z : (Nat → Prop) → State → Heap → Prop} (hZ : q_St Z) {cJ : ClassId} (hJ : tys[2]? = some (cJ, .long)) (x o : Nat) (v : Int32) {rm : Room} {mc ms : Nat} {r : Int32} {w : va_W} (hw : ∃ fs : List Value, w[0]? = some (x, .inr (5, fs))) {Post : Option Value → List va_W → State → Prop} (hM : q_Ct l D tys Z yX6_told wsX6_told rm mc ms [.ref x, .int v] [w] Post) (hf : rm.frames ≤ 10) (hlo : rm.locals ≤ 400) (hc : rm.cells = mc) (hs : rm.slots = ms) (hp : ∀ v0 R t, Post v0 R t → v0 = some (.int r)) (g : Nat → Int64) : q_Ct l D tys Z yL_told wsL_told { frames := 11, cells := mc, slots := ms, locals := 430 } mc ms [.ref x, .int v, .ref o] [w, [(o, .inl (cJ, 1, .inr (.inl g)))]] (fun v0 R0 _ => v0 = some (.int (nI 0)) ∧ ∃ R t, Post (some (.int r)) R t ∧ R0 = [R.flatten, [(o, .inl (cJ, 1, .inr (.inl (va_up g 0 r.toInt64))))]]) := by
  refine q_ctW (cc := cL_told) (maxL := 4) (ret := some .int) (own := RL) (hh := [(0, 9, 12, 20)]) (by decide) rfl hZ (Nat.le_of_ble_eq_true rfl) rfl ?_
  intro p9 e9 R s9 m9 args below meth c9 A Q C B TB
  have hts := C.2.2.2.2.1
  refine q_eqL (L' := [(0, .ref x), (1, .int v), (2, .ref o)]) rfl ?_
  refine q_aload_n C dL_told_0 1 2 rfl rfl ?_
  refine q_iconst (v := nI 0) C dL_told_1 2 rfl (by decide) ?_
  refine q_aload_n C dL_told_2 3 0 rfl rfl ?_
  refine q_iload_n C dL_told_3 4 1 rfl rfl ?_
  refine q_callV (k := 0) (ci := 5) (n := 1) (As := [.int v]) (rest := [.int (nI 0), .ref o]) (Rr := [[(o, .inl (cJ, 1, .inr (.inl g)))]]) C rfl hw rfl hM gL_told_X6_told rfl hc hs (by decide +kernel) B.1 ⟨by show _ ≤ 11; omega, by show 8 + (2 + 11) + _ ≤ 430; omega⟩ rfl rfl (Nat.le_of_ble_eq_true rfl) dL_told_4 ⟨by show 0 + mc ≤ mc; omega, by show 0 + ms ≤ ms; omega⟩ [0] [1] (by decide : ([0] ++ ([1] : List Nat)).Perm (List.range 2)) rfl rfl 7 rfl (fun v0 R0 t0 ht0 hp0 => ?_)
  obtain rfl := hp _ _ _ hp0
  refine q_eqs (st' := [.int r, .int (nI 0), .ref o]) rfl ?_
  refine q_resp (Rs' := [R0.flatten, [(o, .inl (cJ, 1, .inr (.inl g)))]]) (by simp) ?_
  refine q_eqn (cells' := mc) (slots' := ms) (by omega) (by omega) ?_
  refine q_i2l (v := r.toInt64) C dL_told_7 8 rfl rfl ?_
  refine q_last (k := 1) (j := 0) C dL_told_8 9 rfl rfl rfl hJ 0 rfl (by decide) (by decide) [R0.flatten, [(o, .inl (cJ, 1, .inr (.inl (va_up g 0 r.toInt64))))]] rfl ?_
  refine q_goto C dL_told_9 15 (by decide) ?_
  refine q_iconst (v := nI 0) C dL_told_15 16 rfl (by decide) ?_
  exact q_iret C B dL_told_16 rfl rfl (fun t1 ht1 => ⟨rfl, R0, t0, hp0, rfl⟩)

set_option maxHeartbeats 400000 in
theorem c_L_told_x1 (l : Launch) {D : va_G} {tys : List (ClassId × FieldType)} {Z : (Nat → Prop) → State → Heap → Prop} (hZ : q_St Z) {cJ : ClassId} (hJ : tys[2]? = some (cJ, .long)) (hXs : q_Xs Z) (x o : Nat) (v : Int32) {rm : Room} {w : va_W} (hw : ∃ fs : List Value, w[0]? = some (x, .inr (5, fs))) (hM : q_Xt l D tys Z yX6_told wsX6_told rm 1 6 [.ref x, .int v] [w] "java/lang/IllegalArgumentException") (hf : rm.frames ≤ 10) (hlo : rm.locals ≤ 400) (hc : rm.cells = 1) (hs : rm.slots = 6) (g : Nat → Int64) : q_Ct l D tys Z yL_told wsL_told { frames := 11, cells := 1, slots := 6, locals := 430 } 1 6 [.ref x, .int v, .ref o] [w, [(o, .inl (cJ, 1, .inr (.inl g)))]] (fun v0 R0 _ => v0 = some (.int (nI 1)) ∧ R0 = [w, [(o, .inl (cJ, 1, .inr (.inl g)))]]) := by
  refine q_ctW (cc := cL_told) (maxL := 4) (ret := some .int) (own := RL) (hh := [(0, 9, 12, 20)]) (by decide) rfl hZ (Nat.le_of_ble_eq_true rfl) rfl ?_
  intro p9 e9 R s9 m9 args below meth c9 A Q C B TB
  have hts := C.2.2.2.2.1
  refine q_eqL (L' := [(0, .ref x), (1, .int v), (2, .ref o)]) rfl ?_
  refine q_aload_n C dL_told_0 1 2 rfl rfl ?_
  refine q_iconst (v := nI 0) C dL_told_1 2 rfl (by decide) ?_
  refine q_aload_n C dL_told_2 3 0 rfl rfl ?_
  refine q_iload_n C dL_told_3 4 1 rfl rfl ?_
  refine q_callXV (k := 0) (ci := 5) (n := 1) (As := [.int v]) (rest := [.int (nI 0), .ref o]) (Rr := [[(o, .inl (cJ, 1, .inr (.inl g)))]]) C rfl hw rfl hM gL_told_X6_told rfl hc hs (by decide +kernel) B.1 ⟨by show _ ≤ 11; omega, by show 8 + (2 + 11) + _ ≤ 430; omega⟩ rfl rfl (Nat.le_of_ble_eq_true rfl) dL_told_4 ⟨by show 0 + 1 ≤ 1; omega, by show 0 + 6 ≤ 6; omega⟩ [0] [1] (by decide : ([0] ++ ([1] : List Nat)).Perm (List.range 2)) rfl rfl
    [] ⟨0, 9, 12, 20⟩ [] (TB.trans rfl) (fun z hz => nomatch hz) (by decide) (by decide) (hts (.classLink RL 20 "java/lang/IllegalArgumentException") (by decide +kernel)) (va_Nw.use rfl ((hXs _ _ _ C.2.2.2.2.2.2.2.1).1 (.castable "java/lang/IllegalArgumentException" "java/lang/IllegalArgumentException") (by decide +kernel))) 12 rfl (fun q9 => ?_)
  refine q_astore_n C dL_told_12 13 rfl [(3, .ref q9), (0, .ref x), (1, .int v), (2, .ref o)] (by decide) rfl ?_
  refine q_iconst (v := nI 1) C dL_told_13 14 rfl (by decide) ?_
  exact q_iret C B dL_told_14 rfl rfl (fun t1 ht1 => ⟨rfl, rfl⟩)

set_option maxHeartbeats 400000 in
theorem c_L_undo_ok (l : Launch) {D : va_G} {tys : List (ClassId × FieldType)} {Z : (Nat → Prop) → State → Heap → Prop} (hZ : q_St Z) {cJ : ClassId} (hJ : tys[2]? = some (cJ, .long)) (x o : Nat) {rm : Room} {mc ms : Nat} {r : Int32} {w : va_W} (hw : ∃ fs : List Value, w[0]? = some (x, .inr (5, fs))) {Post : Option Value → List va_W → State → Prop} (hM : q_Ct l D tys Z yX6_undo wsX6_undo rm mc ms [.ref x] [w] Post) (hf : rm.frames ≤ 10) (hlo : rm.locals ≤ 400) (hc : rm.cells = mc) (hs : rm.slots = ms) (hp : ∀ v0 R t, Post v0 R t → v0 = some (.int r)) (g : Nat → Int64) : q_Ct l D tys Z yL_undo wsL_undo { frames := 11, cells := mc, slots := ms, locals := 430 } mc ms [.ref x, .ref o] [w, [(o, .inl (cJ, 1, .inr (.inl g)))]] (fun v0 R0 _ => v0 = some (.int (nI 0)) ∧ ∃ R t, Post (some (.int r)) R t ∧ R0 = [R.flatten, [(o, .inl (cJ, 1, .inr (.inl (va_up g 0 r.toInt64))))]]) := by
  refine q_ctW (cc := cL_undo) (maxL := 3) (ret := some .int) (own := RL) (hh := [(0, 8, 11, 15)]) (by decide) rfl hZ (Nat.le_of_ble_eq_true rfl) rfl ?_
  intro p9 e9 R s9 m9 args below meth c9 A Q C B TB
  have hts := C.2.2.2.2.1
  refine q_eqL (L' := [(0, .ref x), (1, .ref o)]) rfl ?_
  refine q_aload_n C dL_undo_0 1 1 rfl rfl ?_
  refine q_iconst (v := nI 0) C dL_undo_1 2 rfl (by decide) ?_
  refine q_aload_n C dL_undo_2 3 0 rfl rfl ?_
  refine q_callV (k := 0) (ci := 5) (n := 0) (As := []) (rest := [.int (nI 0), .ref o]) (Rr := [[(o, .inl (cJ, 1, .inr (.inl g)))]]) C rfl hw rfl hM gL_undo_X6_undo rfl hc hs (by decide +kernel) B.1 ⟨by show _ ≤ 11; omega, by show 8 + (1 + 11) + _ ≤ 430; omega⟩ rfl rfl (Nat.le_of_ble_eq_true rfl) dL_undo_3 ⟨by show 0 + mc ≤ mc; omega, by show 0 + ms ≤ ms; omega⟩ [0] [1] (by decide : ([0] ++ ([1] : List Nat)).Perm (List.range 2)) rfl rfl 6 rfl (fun v0 R0 t0 ht0 hp0 => ?_)
  obtain rfl := hp _ _ _ hp0
  refine q_eqs (st' := [.int r, .int (nI 0), .ref o]) rfl ?_
  refine q_resp (Rs' := [R0.flatten, [(o, .inl (cJ, 1, .inr (.inl g)))]]) (by simp) ?_
  refine q_eqn (cells' := mc) (slots' := ms) (by omega) (by omega) ?_
  refine q_i2l (v := r.toInt64) C dL_undo_6 7 rfl rfl ?_
  refine q_last (k := 1) (j := 0) C dL_undo_7 8 rfl rfl rfl hJ 0 rfl (by decide) (by decide) [R0.flatten, [(o, .inl (cJ, 1, .inr (.inl (va_up g 0 r.toInt64))))]] rfl ?_
  refine q_goto C dL_undo_8 14 (by decide) ?_
  refine q_iconst (v := nI 0) C dL_undo_14 15 rfl (by decide) ?_
  exact q_iret C B dL_undo_15 rfl rfl (fun t1 ht1 => ⟨rfl, R0, t0, hp0, rfl⟩)

set_option maxHeartbeats 400000 in
theorem c_L_undo_x1 (l : Launch) {D : va_G} {tys : List (ClassId × FieldType)} {Z : (Nat → Prop) → State → Heap → Prop} (hZ : q_St Z) {cJ : ClassId} (hJ : tys[2]? = some (cJ, .long)) (hXs : q_Xs Z) (x o : Nat) {rm : Room} {w : va_W} (hw : ∃ fs : List Value, w[0]? = some (x, .inr (5, fs))) (hM : q_Xt l D tys Z yX6_undo wsX6_undo rm 1 6 [.ref x] [w] "java/lang/IllegalStateException") (hf : rm.frames ≤ 10) (hlo : rm.locals ≤ 400) (hc : rm.cells = 1) (hs : rm.slots = 6) (g : Nat → Int64) : q_Ct l D tys Z yL_undo wsL_undo { frames := 11, cells := 1, slots := 6, locals := 430 } 1 6 [.ref x, .ref o] [w, [(o, .inl (cJ, 1, .inr (.inl g)))]] (fun v0 R0 _ => v0 = some (.int (nI 1)) ∧ R0 = [w, [(o, .inl (cJ, 1, .inr (.inl g)))]]) := by
  refine q_ctW (cc := cL_undo) (maxL := 3) (ret := some .int) (own := RL) (hh := [(0, 8, 11, 15)]) (by decide) rfl hZ (Nat.le_of_ble_eq_true rfl) rfl ?_
  intro p9 e9 R s9 m9 args below meth c9 A Q C B TB
  have hts := C.2.2.2.2.1
  refine q_eqL (L' := [(0, .ref x), (1, .ref o)]) rfl ?_
  refine q_aload_n C dL_undo_0 1 1 rfl rfl ?_
  refine q_iconst (v := nI 0) C dL_undo_1 2 rfl (by decide) ?_
  refine q_aload_n C dL_undo_2 3 0 rfl rfl ?_
  refine q_callXV (k := 0) (ci := 5) (n := 0) (As := []) (rest := [.int (nI 0), .ref o]) (Rr := [[(o, .inl (cJ, 1, .inr (.inl g)))]]) C rfl hw rfl hM gL_undo_X6_undo rfl hc hs (by decide +kernel) B.1 ⟨by show _ ≤ 11; omega, by show 8 + (1 + 11) + _ ≤ 430; omega⟩ rfl rfl (Nat.le_of_ble_eq_true rfl) dL_undo_3 ⟨by show 0 + 1 ≤ 1; omega, by show 0 + 6 ≤ 6; omega⟩ [0] [1] (by decide : ([0] ++ ([1] : List Nat)).Perm (List.range 2)) rfl rfl
    [] ⟨0, 8, 11, 15⟩ [] (TB.trans rfl) (fun z hz => nomatch hz) (by decide) (by decide) (hts (.classLink RL 15 "java/lang/IllegalStateException") (by decide +kernel)) (va_Nw.use rfl ((hXs _ _ _ C.2.2.2.2.2.2.2.1).1 (.castable "java/lang/IllegalStateException" "java/lang/IllegalStateException") (by decide +kernel))) 11 rfl (fun q9 => ?_)
  refine q_astore_n C dL_undo_11 12 rfl [(2, .ref q9), (0, .ref x), (1, .ref o)] (by decide) rfl ?_
  refine q_iconst (v := nI 1) C dL_undo_12 13 rfl (by decide) ?_
  exact q_iret C B dL_undo_13 rfl rfl (fun t1 ht1 => ⟨rfl, rfl⟩)

set_option maxHeartbeats 400000 in
theorem c_L_restore_ok (l : Launch) {D : va_G} {tys : List (ClassId × FieldType)} {Z : (Nat → Prop) → State → Heap → Prop} (hZ : q_St Z) {cJ : ClassId} (hJ : tys[2]? = some (cJ, .long)) (x o : Nat) {rm : Room} {mc ms : Nat} {r : Int32} {w : va_W} (hw : ∃ fs : List Value, w[0]? = some (x, .inr (5, fs))) {Post : Option Value → List va_W → State → Prop} (hM : q_Ct l D tys Z yX6_restore wsX6_restore rm mc ms [.ref x] [w] Post) (hf : rm.frames ≤ 10) (hlo : rm.locals ≤ 400) (hc : rm.cells = mc) (hs : rm.slots = ms) (hp : ∀ v0 R t, Post v0 R t → v0 = some (.int r)) (g : Nat → Int64) : q_Ct l D tys Z yL_restore wsL_restore { frames := 11, cells := mc, slots := ms, locals := 430 } mc ms [.ref x, .ref o] [w, [(o, .inl (cJ, 1, .inr (.inl g)))]] (fun v0 R0 _ => v0 = some (.int (nI 0)) ∧ ∃ R t, Post (some (.int r)) R t ∧ R0 = [R.flatten, [(o, .inl (cJ, 1, .inr (.inl (va_up g 0 r.toInt64))))]]) := by
  refine q_ctW (cc := cL_restore) (maxL := 3) (ret := some .int) (own := RL) (hh := [(0, 8, 11, 15)]) (by decide) rfl hZ (Nat.le_of_ble_eq_true rfl) rfl ?_
  intro p9 e9 R s9 m9 args below meth c9 A Q C B TB
  have hts := C.2.2.2.2.1
  refine q_eqL (L' := [(0, .ref x), (1, .ref o)]) rfl ?_
  refine q_aload_n C dL_restore_0 1 1 rfl rfl ?_
  refine q_iconst (v := nI 0) C dL_restore_1 2 rfl (by decide) ?_
  refine q_aload_n C dL_restore_2 3 0 rfl rfl ?_
  refine q_callV (k := 0) (ci := 5) (n := 0) (As := []) (rest := [.int (nI 0), .ref o]) (Rr := [[(o, .inl (cJ, 1, .inr (.inl g)))]]) C rfl hw rfl hM gL_restore_X6_restore rfl hc hs (by decide +kernel) B.1 ⟨by show _ ≤ 11; omega, by show 8 + (1 + 11) + _ ≤ 430; omega⟩ rfl rfl (Nat.le_of_ble_eq_true rfl) dL_restore_3 ⟨by show 0 + mc ≤ mc; omega, by show 0 + ms ≤ ms; omega⟩ [0] [1] (by decide : ([0] ++ ([1] : List Nat)).Perm (List.range 2)) rfl rfl 6 rfl (fun v0 R0 t0 ht0 hp0 => ?_)
  obtain rfl := hp _ _ _ hp0
  refine q_eqs (st' := [.int r, .int (nI 0), .ref o]) rfl ?_
  refine q_resp (Rs' := [R0.flatten, [(o, .inl (cJ, 1, .inr (.inl g)))]]) (by simp) ?_
  refine q_eqn (cells' := mc) (slots' := ms) (by omega) (by omega) ?_
  refine q_i2l (v := r.toInt64) C dL_restore_6 7 rfl rfl ?_
  refine q_last (k := 1) (j := 0) C dL_restore_7 8 rfl rfl rfl hJ 0 rfl (by decide) (by decide) [R0.flatten, [(o, .inl (cJ, 1, .inr (.inl (va_up g 0 r.toInt64))))]] rfl ?_
  refine q_goto C dL_restore_8 14 (by decide) ?_
  refine q_iconst (v := nI 0) C dL_restore_14 15 rfl (by decide) ?_
  exact q_iret C B dL_restore_15 rfl rfl (fun t1 ht1 => ⟨rfl, R0, t0, hp0, rfl⟩)

set_option maxHeartbeats 400000 in
theorem c_L_restore_x1 (l : Launch) {D : va_G} {tys : List (ClassId × FieldType)} {Z : (Nat → Prop) → State → Heap → Prop} (hZ : q_St Z) {cJ : ClassId} (hJ : tys[2]? = some (cJ, .long)) (hXs : q_Xs Z) (x o : Nat) {rm : Room} {w : va_W} (hw : ∃ fs : List Value, w[0]? = some (x, .inr (5, fs))) (hM : q_Xt l D tys Z yX6_restore wsX6_restore rm 1 6 [.ref x] [w] "java/lang/IllegalStateException") (hf : rm.frames ≤ 10) (hlo : rm.locals ≤ 400) (hc : rm.cells = 1) (hs : rm.slots = 6) (g : Nat → Int64) : q_Ct l D tys Z yL_restore wsL_restore { frames := 11, cells := 1, slots := 6, locals := 430 } 1 6 [.ref x, .ref o] [w, [(o, .inl (cJ, 1, .inr (.inl g)))]] (fun v0 R0 _ => v0 = some (.int (nI 1)) ∧ R0 = [w, [(o, .inl (cJ, 1, .inr (.inl g)))]]) := by
  refine q_ctW (cc := cL_restore) (maxL := 3) (ret := some .int) (own := RL) (hh := [(0, 8, 11, 15)]) (by decide) rfl hZ (Nat.le_of_ble_eq_true rfl) rfl ?_
  intro p9 e9 R s9 m9 args below meth c9 A Q C B TB
  have hts := C.2.2.2.2.1
  refine q_eqL (L' := [(0, .ref x), (1, .ref o)]) rfl ?_
  refine q_aload_n C dL_restore_0 1 1 rfl rfl ?_
  refine q_iconst (v := nI 0) C dL_restore_1 2 rfl (by decide) ?_
  refine q_aload_n C dL_restore_2 3 0 rfl rfl ?_
  refine q_callXV (k := 0) (ci := 5) (n := 0) (As := []) (rest := [.int (nI 0), .ref o]) (Rr := [[(o, .inl (cJ, 1, .inr (.inl g)))]]) C rfl hw rfl hM gL_restore_X6_restore rfl hc hs (by decide +kernel) B.1 ⟨by show _ ≤ 11; omega, by show 8 + (1 + 11) + _ ≤ 430; omega⟩ rfl rfl (Nat.le_of_ble_eq_true rfl) dL_restore_3 ⟨by show 0 + 1 ≤ 1; omega, by show 0 + 6 ≤ 6; omega⟩ [0] [1] (by decide : ([0] ++ ([1] : List Nat)).Perm (List.range 2)) rfl rfl
    [] ⟨0, 8, 11, 15⟩ [] (TB.trans rfl) (fun z hz => nomatch hz) (by decide) (by decide) (hts (.classLink RL 15 "java/lang/IllegalStateException") (by decide +kernel)) (va_Nw.use rfl ((hXs _ _ _ C.2.2.2.2.2.2.2.1).1 (.castable "java/lang/IllegalStateException" "java/lang/IllegalStateException") (by decide +kernel))) 11 rfl (fun q9 => ?_)
  refine q_astore_n C dL_restore_11 12 rfl [(2, .ref q9), (0, .ref x), (1, .ref o)] (by decide) rfl ?_
  refine q_iconst (v := nI 1) C dL_restore_12 13 rfl (by decide) ?_
  exact q_iret C B dL_restore_13 rfl rfl (fun t1 ht1 => ⟨rfl, rfl⟩)

set_option maxHeartbeats 400000 in
theorem c_L_box_ok (l : Launch) {D : va_G} {tys : List (ClassId × FieldType)} {Z : (Nat → Prop) → State → Heap → Prop} (hZ : q_St Z) {cJ : ClassId} (hJ : tys[2]? = some (cJ, .long)) (x o : Nat) (v : Int32) (v2 : Int32) {rm : Room} {mc ms : Nat} {r : Int32} {w : va_W} (hw : ∃ fs : List Value, w[0]? = some (x, .inr (5, fs))) {Post : Option Value → List va_W → State → Prop} (hM : q_Ct l D tys Z yX6_box wsX6_box rm mc ms [.ref x, .int v, .int v2] [w] Post) (hf : rm.frames ≤ 10) (hlo : rm.locals ≤ 400) (hc : rm.cells = mc) (hs : rm.slots = ms) (hp : ∀ v0 R t, Post v0 R t → v0 = some (.int r)) (g : Nat → Int64) : q_Ct l D tys Z yL_box wsL_box { frames := 11, cells := mc, slots := ms, locals := 430 } mc ms [.ref x, .int v, .int v2, .ref o] [w, [(o, .inl (cJ, 1, .inr (.inl g)))]] (fun v0 R0 _ => v0 = some (.int (nI 0)) ∧ ∃ R t, Post (some (.int r)) R t ∧ R0 = [R.flatten, [(o, .inl (cJ, 1, .inr (.inl (va_up g 0 r.toInt64))))]]) := by
  refine q_ctW (cc := cL_box) (maxL := 5) (ret := some .int) (own := RL) (hh := [(0, 10, 13, 13), (0, 10, 17, 20)]) (by decide) rfl hZ (Nat.le_of_ble_eq_true rfl) rfl ?_
  intro p9 e9 R s9 m9 args below meth c9 A Q C B TB
  have hts := C.2.2.2.2.1
  refine q_eqL (L' := [(0, .ref x), (1, .int v), (2, .int v2), (3, .ref o)]) rfl ?_
  refine q_aload_n C dL_box_0 1 3 rfl rfl ?_
  refine q_iconst (v := nI 0) C dL_box_1 2 rfl (by decide) ?_
  refine q_aload_n C dL_box_2 3 0 rfl rfl ?_
  refine q_iload_n C dL_box_3 4 1 rfl rfl ?_
  refine q_iload_n C dL_box_4 5 2 rfl rfl ?_
  refine q_callV (k := 0) (ci := 5) (n := 2) (As := [.int v, .int v2]) (rest := [.int (nI 0), .ref o]) (Rr := [[(o, .inl (cJ, 1, .inr (.inl g)))]]) C rfl hw rfl hM gL_box_X6_box rfl hc hs (by decide +kernel) B.1 ⟨by show _ ≤ 11; omega, by show 8 + (3 + 11) + _ ≤ 430; omega⟩ rfl rfl (Nat.le_of_ble_eq_true rfl) dL_box_5 ⟨by show 0 + mc ≤ mc; omega, by show 0 + ms ≤ ms; omega⟩ [0] [1] (by decide : ([0] ++ ([1] : List Nat)).Perm (List.range 2)) rfl rfl 8 rfl (fun v0 R0 t0 ht0 hp0 => ?_)
  obtain rfl := hp _ _ _ hp0
  refine q_eqs (st' := [.int r, .int (nI 0), .ref o]) rfl ?_
  refine q_resp (Rs' := [R0.flatten, [(o, .inl (cJ, 1, .inr (.inl g)))]]) (by simp) ?_
  refine q_eqn (cells' := mc) (slots' := ms) (by omega) (by omega) ?_
  refine q_i2l (v := r.toInt64) C dL_box_8 9 rfl rfl ?_
  refine q_last (k := 1) (j := 0) C dL_box_9 10 rfl rfl rfl hJ 0 rfl (by decide) (by decide) [R0.flatten, [(o, .inl (cJ, 1, .inr (.inl (va_up g 0 r.toInt64))))]] rfl ?_
  refine q_goto C dL_box_10 21 (by decide) ?_
  refine q_iconst (v := nI 0) C dL_box_21 22 rfl (by decide) ?_
  exact q_iret C B dL_box_22 rfl rfl (fun t1 ht1 => ⟨rfl, R0, t0, hp0, rfl⟩)

set_option maxHeartbeats 400000 in
theorem c_L_box_x1 (l : Launch) {D : va_G} {tys : List (ClassId × FieldType)} {Z : (Nat → Prop) → State → Heap → Prop} (hZ : q_St Z) {cJ : ClassId} (hJ : tys[2]? = some (cJ, .long)) (hXs : q_Xs Z) (x o : Nat) (v : Int32) (v2 : Int32) {rm : Room} {w : va_W} (hw : ∃ fs : List Value, w[0]? = some (x, .inr (5, fs))) (hM : q_Xt l D tys Z yX6_box wsX6_box rm 1 6 [.ref x, .int v, .int v2] [w] "java/lang/IndexOutOfBoundsException") (hf : rm.frames ≤ 10) (hlo : rm.locals ≤ 400) (hc : rm.cells = 1) (hs : rm.slots = 6) (g : Nat → Int64) : q_Ct l D tys Z yL_box wsL_box { frames := 11, cells := 1, slots := 6, locals := 430 } 1 6 [.ref x, .int v, .int v2, .ref o] [w, [(o, .inl (cJ, 1, .inr (.inl g)))]] (fun v0 R0 _ => v0 = some (.int (nI 1)) ∧ R0 = [w, [(o, .inl (cJ, 1, .inr (.inl g)))]]) := by
  refine q_ctW (cc := cL_box) (maxL := 5) (ret := some .int) (own := RL) (hh := [(0, 10, 13, 13), (0, 10, 17, 20)]) (by decide) rfl hZ (Nat.le_of_ble_eq_true rfl) rfl ?_
  intro p9 e9 R s9 m9 args below meth c9 A Q C B TB
  have hts := C.2.2.2.2.1
  refine q_eqL (L' := [(0, .ref x), (1, .int v), (2, .int v2), (3, .ref o)]) rfl ?_
  refine q_aload_n C dL_box_0 1 3 rfl rfl ?_
  refine q_iconst (v := nI 0) C dL_box_1 2 rfl (by decide) ?_
  refine q_aload_n C dL_box_2 3 0 rfl rfl ?_
  refine q_iload_n C dL_box_3 4 1 rfl rfl ?_
  refine q_iload_n C dL_box_4 5 2 rfl rfl ?_
  refine q_callXV (k := 0) (ci := 5) (n := 2) (As := [.int v, .int v2]) (rest := [.int (nI 0), .ref o]) (Rr := [[(o, .inl (cJ, 1, .inr (.inl g)))]]) C rfl hw rfl hM gL_box_X6_box rfl hc hs (by decide +kernel) B.1 ⟨by show _ ≤ 11; omega, by show 8 + (3 + 11) + _ ≤ 430; omega⟩ rfl rfl (Nat.le_of_ble_eq_true rfl) dL_box_5 ⟨by show 0 + 1 ≤ 1; omega, by show 0 + 6 ≤ 6; omega⟩ [0] [1] (by decide : ([0] ++ ([1] : List Nat)).Perm (List.range 2)) rfl rfl
    [] ⟨0, 10, 13, 13⟩ [⟨0, 10, 17, 20⟩] (TB.trans rfl) (fun z hz => nomatch hz) (by decide) (by decide) (hts (.classLink RL 13 "java/lang/IndexOutOfBoundsException") (by decide +kernel)) (va_Nw.use rfl ((hXs _ _ _ C.2.2.2.2.2.2.2.1).1 (.castable "java/lang/IndexOutOfBoundsException" "java/lang/IndexOutOfBoundsException") (by decide +kernel))) 13 rfl (fun q9 => ?_)
  refine q_astore C dL_box_13 15 rfl [(4, .ref q9), (0, .ref x), (1, .int v), (2, .int v2), (3, .ref o)] (by decide) rfl ?_
  refine q_iconst (v := nI 1) C dL_box_15 16 rfl (by decide) ?_
  exact q_iret C B dL_box_16 rfl rfl (fun t1 ht1 => ⟨rfl, rfl⟩)

set_option maxHeartbeats 400000 in
theorem c_L_box_x2 (l : Launch) {D : va_G} {tys : List (ClassId × FieldType)} {Z : (Nat → Prop) → State → Heap → Prop} (hZ : q_St Z) {cJ : ClassId} (hJ : tys[2]? = some (cJ, .long)) (hXs : q_Xs Z) (x o : Nat) (v : Int32) (v2 : Int32) {rm : Room} {w : va_W} (hw : ∃ fs : List Value, w[0]? = some (x, .inr (5, fs))) (hM : q_Xt l D tys Z yX6_box wsX6_box rm 1 6 [.ref x, .int v, .int v2] [w] "java/lang/IllegalArgumentException") (hf : rm.frames ≤ 10) (hlo : rm.locals ≤ 400) (hc : rm.cells = 1) (hs : rm.slots = 6) (g : Nat → Int64) : q_Ct l D tys Z yL_box wsL_box { frames := 11, cells := 1, slots := 6, locals := 430 } 1 6 [.ref x, .int v, .int v2, .ref o] [w, [(o, .inl (cJ, 1, .inr (.inl g)))]] (fun v0 R0 _ => v0 = some (.int (nI 2)) ∧ R0 = [w, [(o, .inl (cJ, 1, .inr (.inl g)))]]) := by
  refine q_ctW (cc := cL_box) (maxL := 5) (ret := some .int) (own := RL) (hh := [(0, 10, 13, 13), (0, 10, 17, 20)]) (by decide) rfl hZ (Nat.le_of_ble_eq_true rfl) rfl ?_
  intro p9 e9 R s9 m9 args below meth c9 A Q C B TB
  have hts := C.2.2.2.2.1
  refine q_eqL (L' := [(0, .ref x), (1, .int v), (2, .int v2), (3, .ref o)]) rfl ?_
  refine q_aload_n C dL_box_0 1 3 rfl rfl ?_
  refine q_iconst (v := nI 0) C dL_box_1 2 rfl (by decide) ?_
  refine q_aload_n C dL_box_2 3 0 rfl rfl ?_
  refine q_iload_n C dL_box_3 4 1 rfl rfl ?_
  refine q_iload_n C dL_box_4 5 2 rfl rfl ?_
  refine q_callXV (k := 0) (ci := 5) (n := 2) (As := [.int v, .int v2]) (rest := [.int (nI 0), .ref o]) (Rr := [[(o, .inl (cJ, 1, .inr (.inl g)))]]) C rfl hw rfl hM gL_box_X6_box rfl hc hs (by decide +kernel) B.1 ⟨by show _ ≤ 11; omega, by show 8 + (3 + 11) + _ ≤ 430; omega⟩ rfl rfl (Nat.le_of_ble_eq_true rfl) dL_box_5 ⟨by show 0 + 1 ≤ 1; omega, by show 0 + 6 ≤ 6; omega⟩ [0] [1] (by decide : ([0] ++ ([1] : List Nat)).Perm (List.range 2)) rfl rfl
    [⟨0, 10, 13, 13⟩] ⟨0, 10, 17, 20⟩ [] (TB.trans rfl) (fun z hz => by cases List.mem_singleton.mp hz; exact Or.inr ⟨by decide, "java/lang/IndexOutOfBoundsException", hts (.classLink RL 13 "java/lang/IndexOutOfBoundsException") (by decide +kernel), (hXs _ _ _ C.2.2.2.2.2.2.2.1).2.2.2 ("java/lang/IllegalArgumentException", "java/lang/IndexOutOfBoundsException") (by decide)⟩) (by decide) (by decide) (hts (.classLink RL 20 "java/lang/IllegalArgumentException") (by decide +kernel)) (va_Nw.use rfl ((hXs _ _ _ C.2.2.2.2.2.2.2.1).1 (.castable "java/lang/IllegalArgumentException" "java/lang/IllegalArgumentException") (by decide +kernel))) 17 rfl (fun q9 => ?_)
  refine q_astore C dL_box_17 19 rfl [(4, .ref q9), (0, .ref x), (1, .int v), (2, .int v2), (3, .ref o)] (by decide) rfl ?_
  refine q_iconst (v := nI 2) C dL_box_19 20 rfl (by decide) ?_
  exact q_iret C B dL_box_20 rfl rfl (fun t1 ht1 => ⟨rfl, rfl⟩)

set_option maxHeartbeats 400000 in
theorem c_L_type_ok (l : Launch) {D : va_G} {tys : List (ClassId × FieldType)} {Z : (Nat → Prop) → State → Heap → Prop} (hZ : q_St Z) {cJ : ClassId} (hJ : tys[2]? = some (cJ, .long)) (x o : Nat) (v : Int32) (v2 : Int32) {rm : Room} {mc ms : Nat} {r : Int32} {w : va_W} (hw : ∃ fs : List Value, w[0]? = some (x, .inr (5, fs))) {Post : Option Value → List va_W → State → Prop} (hM : q_Ct l D tys Z yX6_type wsX6_type rm mc ms [.ref x, .int v, .int v2] [w] Post) (hf : rm.frames ≤ 10) (hlo : rm.locals ≤ 400) (hc : rm.cells = mc) (hs : rm.slots = ms) (hp : ∀ v0 R t, Post v0 R t → v0 = some (.int r)) (g : Nat → Int64) : q_Ct l D tys Z yL_type wsL_type { frames := 11, cells := mc, slots := ms, locals := 430 } mc ms [.ref x, .int v, .int v2, .ref o] [w, [(o, .inl (cJ, 1, .inr (.inl g)))]] (fun v0 R0 _ => v0 = some (.int (nI 0)) ∧ ∃ R t, Post (some (.int r)) R t ∧ R0 = [R.flatten, [(o, .inl (cJ, 1, .inr (.inl (va_up g 0 r.toInt64))))]]) := by
  refine q_ctW (cc := cL_type) (maxL := 5) (ret := some .int) (own := RL) (hh := [(0, 10, 13, 13), (0, 10, 17, 20)]) (by decide) rfl hZ (Nat.le_of_ble_eq_true rfl) rfl ?_
  intro p9 e9 R s9 m9 args below meth c9 A Q C B TB
  have hts := C.2.2.2.2.1
  refine q_eqL (L' := [(0, .ref x), (1, .int v), (2, .int v2), (3, .ref o)]) rfl ?_
  refine q_aload_n C dL_type_0 1 3 rfl rfl ?_
  refine q_iconst (v := nI 0) C dL_type_1 2 rfl (by decide) ?_
  refine q_aload_n C dL_type_2 3 0 rfl rfl ?_
  refine q_iload_n C dL_type_3 4 1 rfl rfl ?_
  refine q_iload_n C dL_type_4 5 2 rfl rfl ?_
  refine q_callV (k := 0) (ci := 5) (n := 2) (As := [.int v, .int v2]) (rest := [.int (nI 0), .ref o]) (Rr := [[(o, .inl (cJ, 1, .inr (.inl g)))]]) C rfl hw rfl hM gL_type_X6_type rfl hc hs (by decide +kernel) B.1 ⟨by show _ ≤ 11; omega, by show 8 + (3 + 11) + _ ≤ 430; omega⟩ rfl rfl (Nat.le_of_ble_eq_true rfl) dL_type_5 ⟨by show 0 + mc ≤ mc; omega, by show 0 + ms ≤ ms; omega⟩ [0] [1] (by decide : ([0] ++ ([1] : List Nat)).Perm (List.range 2)) rfl rfl 8 rfl (fun v0 R0 t0 ht0 hp0 => ?_)
  obtain rfl := hp _ _ _ hp0
  refine q_eqs (st' := [.int r, .int (nI 0), .ref o]) rfl ?_
  refine q_resp (Rs' := [R0.flatten, [(o, .inl (cJ, 1, .inr (.inl g)))]]) (by simp) ?_
  refine q_eqn (cells' := mc) (slots' := ms) (by omega) (by omega) ?_
  refine q_i2l (v := r.toInt64) C dL_type_8 9 rfl rfl ?_
  refine q_last (k := 1) (j := 0) C dL_type_9 10 rfl rfl rfl hJ 0 rfl (by decide) (by decide) [R0.flatten, [(o, .inl (cJ, 1, .inr (.inl (va_up g 0 r.toInt64))))]] rfl ?_
  refine q_goto C dL_type_10 21 (by decide) ?_
  refine q_iconst (v := nI 0) C dL_type_21 22 rfl (by decide) ?_
  exact q_iret C B dL_type_22 rfl rfl (fun t1 ht1 => ⟨rfl, R0, t0, hp0, rfl⟩)

set_option maxHeartbeats 400000 in
theorem c_L_type_x1 (l : Launch) {D : va_G} {tys : List (ClassId × FieldType)} {Z : (Nat → Prop) → State → Heap → Prop} (hZ : q_St Z) {cJ : ClassId} (hJ : tys[2]? = some (cJ, .long)) (hXs : q_Xs Z) (x o : Nat) (v : Int32) (v2 : Int32) {rm : Room} {w : va_W} (hw : ∃ fs : List Value, w[0]? = some (x, .inr (5, fs))) (hM : q_Xt l D tys Z yX6_type wsX6_type rm 1 6 [.ref x, .int v, .int v2] [w] "java/lang/IndexOutOfBoundsException") (hf : rm.frames ≤ 10) (hlo : rm.locals ≤ 400) (hc : rm.cells = 1) (hs : rm.slots = 6) (g : Nat → Int64) : q_Ct l D tys Z yL_type wsL_type { frames := 11, cells := 1, slots := 6, locals := 430 } 1 6 [.ref x, .int v, .int v2, .ref o] [w, [(o, .inl (cJ, 1, .inr (.inl g)))]] (fun v0 R0 _ => v0 = some (.int (nI 1)) ∧ R0 = [w, [(o, .inl (cJ, 1, .inr (.inl g)))]]) := by
  refine q_ctW (cc := cL_type) (maxL := 5) (ret := some .int) (own := RL) (hh := [(0, 10, 13, 13), (0, 10, 17, 20)]) (by decide) rfl hZ (Nat.le_of_ble_eq_true rfl) rfl ?_
  intro p9 e9 R s9 m9 args below meth c9 A Q C B TB
  have hts := C.2.2.2.2.1
  refine q_eqL (L' := [(0, .ref x), (1, .int v), (2, .int v2), (3, .ref o)]) rfl ?_
  refine q_aload_n C dL_type_0 1 3 rfl rfl ?_
  refine q_iconst (v := nI 0) C dL_type_1 2 rfl (by decide) ?_
  refine q_aload_n C dL_type_2 3 0 rfl rfl ?_
  refine q_iload_n C dL_type_3 4 1 rfl rfl ?_
  refine q_iload_n C dL_type_4 5 2 rfl rfl ?_
  refine q_callXV (k := 0) (ci := 5) (n := 2) (As := [.int v, .int v2]) (rest := [.int (nI 0), .ref o]) (Rr := [[(o, .inl (cJ, 1, .inr (.inl g)))]]) C rfl hw rfl hM gL_type_X6_type rfl hc hs (by decide +kernel) B.1 ⟨by show _ ≤ 11; omega, by show 8 + (3 + 11) + _ ≤ 430; omega⟩ rfl rfl (Nat.le_of_ble_eq_true rfl) dL_type_5 ⟨by show 0 + 1 ≤ 1; omega, by show 0 + 6 ≤ 6; omega⟩ [0] [1] (by decide : ([0] ++ ([1] : List Nat)).Perm (List.range 2)) rfl rfl
    [] ⟨0, 10, 13, 13⟩ [⟨0, 10, 17, 20⟩] (TB.trans rfl) (fun z hz => nomatch hz) (by decide) (by decide) (hts (.classLink RL 13 "java/lang/IndexOutOfBoundsException") (by decide +kernel)) (va_Nw.use rfl ((hXs _ _ _ C.2.2.2.2.2.2.2.1).1 (.castable "java/lang/IndexOutOfBoundsException" "java/lang/IndexOutOfBoundsException") (by decide +kernel))) 13 rfl (fun q9 => ?_)
  refine q_astore C dL_type_13 15 rfl [(4, .ref q9), (0, .ref x), (1, .int v), (2, .int v2), (3, .ref o)] (by decide) rfl ?_
  refine q_iconst (v := nI 1) C dL_type_15 16 rfl (by decide) ?_
  exact q_iret C B dL_type_16 rfl rfl (fun t1 ht1 => ⟨rfl, rfl⟩)

set_option maxHeartbeats 400000 in
theorem c_L_type_x2 (l : Launch) {D : va_G} {tys : List (ClassId × FieldType)} {Z : (Nat → Prop) → State → Heap → Prop} (hZ : q_St Z) {cJ : ClassId} (hJ : tys[2]? = some (cJ, .long)) (hXs : q_Xs Z) (x o : Nat) (v : Int32) (v2 : Int32) {rm : Room} {w : va_W} (hw : ∃ fs : List Value, w[0]? = some (x, .inr (5, fs))) (hM : q_Xt l D tys Z yX6_type wsX6_type rm 1 6 [.ref x, .int v, .int v2] [w] "java/lang/IllegalArgumentException") (hf : rm.frames ≤ 10) (hlo : rm.locals ≤ 400) (hc : rm.cells = 1) (hs : rm.slots = 6) (g : Nat → Int64) : q_Ct l D tys Z yL_type wsL_type { frames := 11, cells := 1, slots := 6, locals := 430 } 1 6 [.ref x, .int v, .int v2, .ref o] [w, [(o, .inl (cJ, 1, .inr (.inl g)))]] (fun v0 R0 _ => v0 = some (.int (nI 2)) ∧ R0 = [w, [(o, .inl (cJ, 1, .inr (.inl g)))]]) := by
  refine q_ctW (cc := cL_type) (maxL := 5) (ret := some .int) (own := RL) (hh := [(0, 10, 13, 13), (0, 10, 17, 20)]) (by decide) rfl hZ (Nat.le_of_ble_eq_true rfl) rfl ?_
  intro p9 e9 R s9 m9 args below meth c9 A Q C B TB
  have hts := C.2.2.2.2.1
  refine q_eqL (L' := [(0, .ref x), (1, .int v), (2, .int v2), (3, .ref o)]) rfl ?_
  refine q_aload_n C dL_type_0 1 3 rfl rfl ?_
  refine q_iconst (v := nI 0) C dL_type_1 2 rfl (by decide) ?_
  refine q_aload_n C dL_type_2 3 0 rfl rfl ?_
  refine q_iload_n C dL_type_3 4 1 rfl rfl ?_
  refine q_iload_n C dL_type_4 5 2 rfl rfl ?_
  refine q_callXV (k := 0) (ci := 5) (n := 2) (As := [.int v, .int v2]) (rest := [.int (nI 0), .ref o]) (Rr := [[(o, .inl (cJ, 1, .inr (.inl g)))]]) C rfl hw rfl hM gL_type_X6_type rfl hc hs (by decide +kernel) B.1 ⟨by show _ ≤ 11; omega, by show 8 + (3 + 11) + _ ≤ 430; omega⟩ rfl rfl (Nat.le_of_ble_eq_true rfl) dL_type_5 ⟨by show 0 + 1 ≤ 1; omega, by show 0 + 6 ≤ 6; omega⟩ [0] [1] (by decide : ([0] ++ ([1] : List Nat)).Perm (List.range 2)) rfl rfl
    [⟨0, 10, 13, 13⟩] ⟨0, 10, 17, 20⟩ [] (TB.trans rfl) (fun z hz => by cases List.mem_singleton.mp hz; exact Or.inr ⟨by decide, "java/lang/IndexOutOfBoundsException", hts (.classLink RL 13 "java/lang/IndexOutOfBoundsException") (by decide +kernel), (hXs _ _ _ C.2.2.2.2.2.2.2.1).2.2.2 ("java/lang/IllegalArgumentException", "java/lang/IndexOutOfBoundsException") (by decide)⟩) (by decide) (by decide) (hts (.classLink RL 20 "java/lang/IllegalArgumentException") (by decide +kernel)) (va_Nw.use rfl ((hXs _ _ _ C.2.2.2.2.2.2.2.1).1 (.castable "java/lang/IllegalArgumentException" "java/lang/IllegalArgumentException") (by decide +kernel))) 17 rfl (fun q9 => ?_)
  refine q_astore C dL_type_17 19 rfl [(4, .ref q9), (0, .ref x), (1, .int v), (2, .int v2), (3, .ref o)] (by decide) rfl ?_
  refine q_iconst (v := nI 2) C dL_type_19 20 rfl (by decide) ?_
  exact q_iret C B dL_type_20 rfl rfl (fun t1 ht1 => ⟨rfl, rfl⟩)

set_option maxHeartbeats 400000 in
theorem c_L_line_ok (l : Launch) {D : va_G} {tys : List (ClassId × FieldType)} {Z : (Nat → Prop) → State → Heap → Prop} (hZ : q_St Z) {cJ : ClassId} (hJ : tys[2]? = some (cJ, .long)) (x o : Nat) (v : Int32) (v2 : Int32) {rm : Room} {mc ms : Nat} {r : Int32} {w : va_W} (hw : ∃ fs : List Value, w[0]? = some (x, .inr (5, fs))) {Post : Option Value → List va_W → State → Prop} (hM : q_Ct l D tys Z yX6_line wsX6_line rm mc ms [.ref x, .int v, .int v2] [w] Post) (hf : rm.frames ≤ 10) (hlo : rm.locals ≤ 400) (hc : rm.cells = mc) (hs : rm.slots = ms) (hp : ∀ v0 R t, Post v0 R t → v0 = some (.int r)) (g : Nat → Int64) : q_Ct l D tys Z yL_line wsL_line { frames := 11, cells := mc, slots := ms, locals := 430 } mc ms [.ref x, .int v, .int v2, .ref o] [w, [(o, .inl (cJ, 1, .inr (.inl g)))]] (fun v0 R0 _ => v0 = some (.int (nI 0)) ∧ ∃ R t, Post (some (.int r)) R t ∧ R0 = [R.flatten, [(o, .inl (cJ, 1, .inr (.inl (va_up g 0 r.toInt64))))]]) := by
  refine q_ctW (cc := cL_line) (maxL := 5) (ret := some .int) (own := RL) (hh := [(0, 10, 13, 13), (0, 10, 17, 20)]) (by decide) rfl hZ (Nat.le_of_ble_eq_true rfl) rfl ?_
  intro p9 e9 R s9 m9 args below meth c9 A Q C B TB
  have hts := C.2.2.2.2.1
  refine q_eqL (L' := [(0, .ref x), (1, .int v), (2, .int v2), (3, .ref o)]) rfl ?_
  refine q_aload_n C dL_line_0 1 3 rfl rfl ?_
  refine q_iconst (v := nI 0) C dL_line_1 2 rfl (by decide) ?_
  refine q_aload_n C dL_line_2 3 0 rfl rfl ?_
  refine q_iload_n C dL_line_3 4 1 rfl rfl ?_
  refine q_iload_n C dL_line_4 5 2 rfl rfl ?_
  refine q_callV (k := 0) (ci := 5) (n := 2) (As := [.int v, .int v2]) (rest := [.int (nI 0), .ref o]) (Rr := [[(o, .inl (cJ, 1, .inr (.inl g)))]]) C rfl hw rfl hM gL_line_X6_line rfl hc hs (by decide +kernel) B.1 ⟨by show _ ≤ 11; omega, by show 8 + (3 + 11) + _ ≤ 430; omega⟩ rfl rfl (Nat.le_of_ble_eq_true rfl) dL_line_5 ⟨by show 0 + mc ≤ mc; omega, by show 0 + ms ≤ ms; omega⟩ [0] [1] (by decide : ([0] ++ ([1] : List Nat)).Perm (List.range 2)) rfl rfl 8 rfl (fun v0 R0 t0 ht0 hp0 => ?_)
  obtain rfl := hp _ _ _ hp0
  refine q_eqs (st' := [.int r, .int (nI 0), .ref o]) rfl ?_
  refine q_resp (Rs' := [R0.flatten, [(o, .inl (cJ, 1, .inr (.inl g)))]]) (by simp) ?_
  refine q_eqn (cells' := mc) (slots' := ms) (by omega) (by omega) ?_
  refine q_i2l (v := r.toInt64) C dL_line_8 9 rfl rfl ?_
  refine q_last (k := 1) (j := 0) C dL_line_9 10 rfl rfl rfl hJ 0 rfl (by decide) (by decide) [R0.flatten, [(o, .inl (cJ, 1, .inr (.inl (va_up g 0 r.toInt64))))]] rfl ?_
  refine q_goto C dL_line_10 21 (by decide) ?_
  refine q_iconst (v := nI 0) C dL_line_21 22 rfl (by decide) ?_
  exact q_iret C B dL_line_22 rfl rfl (fun t1 ht1 => ⟨rfl, R0, t0, hp0, rfl⟩)

set_option maxHeartbeats 400000 in
theorem c_L_line_x1 (l : Launch) {D : va_G} {tys : List (ClassId × FieldType)} {Z : (Nat → Prop) → State → Heap → Prop} (hZ : q_St Z) {cJ : ClassId} (hJ : tys[2]? = some (cJ, .long)) (hXs : q_Xs Z) (x o : Nat) (v : Int32) (v2 : Int32) {rm : Room} {w : va_W} (hw : ∃ fs : List Value, w[0]? = some (x, .inr (5, fs))) (hM : q_Xt l D tys Z yX6_line wsX6_line rm 1 6 [.ref x, .int v, .int v2] [w] "java/lang/IndexOutOfBoundsException") (hf : rm.frames ≤ 10) (hlo : rm.locals ≤ 400) (hc : rm.cells = 1) (hs : rm.slots = 6) (g : Nat → Int64) : q_Ct l D tys Z yL_line wsL_line { frames := 11, cells := 1, slots := 6, locals := 430 } 1 6 [.ref x, .int v, .int v2, .ref o] [w, [(o, .inl (cJ, 1, .inr (.inl g)))]] (fun v0 R0 _ => v0 = some (.int (nI 1)) ∧ R0 = [w, [(o, .inl (cJ, 1, .inr (.inl g)))]]) := by
  refine q_ctW (cc := cL_line) (maxL := 5) (ret := some .int) (own := RL) (hh := [(0, 10, 13, 13), (0, 10, 17, 20)]) (by decide) rfl hZ (Nat.le_of_ble_eq_true rfl) rfl ?_
  intro p9 e9 R s9 m9 args below meth c9 A Q C B TB
  have hts := C.2.2.2.2.1
  refine q_eqL (L' := [(0, .ref x), (1, .int v), (2, .int v2), (3, .ref o)]) rfl ?_
  refine q_aload_n C dL_line_0 1 3 rfl rfl ?_
  refine q_iconst (v := nI 0) C dL_line_1 2 rfl (by decide) ?_
  refine q_aload_n C dL_line_2 3 0 rfl rfl ?_
  refine q_iload_n C dL_line_3 4 1 rfl rfl ?_
  refine q_iload_n C dL_line_4 5 2 rfl rfl ?_
  refine q_callXV (k := 0) (ci := 5) (n := 2) (As := [.int v, .int v2]) (rest := [.int (nI 0), .ref o]) (Rr := [[(o, .inl (cJ, 1, .inr (.inl g)))]]) C rfl hw rfl hM gL_line_X6_line rfl hc hs (by decide +kernel) B.1 ⟨by show _ ≤ 11; omega, by show 8 + (3 + 11) + _ ≤ 430; omega⟩ rfl rfl (Nat.le_of_ble_eq_true rfl) dL_line_5 ⟨by show 0 + 1 ≤ 1; omega, by show 0 + 6 ≤ 6; omega⟩ [0] [1] (by decide : ([0] ++ ([1] : List Nat)).Perm (List.range 2)) rfl rfl
    [] ⟨0, 10, 13, 13⟩ [⟨0, 10, 17, 20⟩] (TB.trans rfl) (fun z hz => nomatch hz) (by decide) (by decide) (hts (.classLink RL 13 "java/lang/IndexOutOfBoundsException") (by decide +kernel)) (va_Nw.use rfl ((hXs _ _ _ C.2.2.2.2.2.2.2.1).1 (.castable "java/lang/IndexOutOfBoundsException" "java/lang/IndexOutOfBoundsException") (by decide +kernel))) 13 rfl (fun q9 => ?_)
  refine q_astore C dL_line_13 15 rfl [(4, .ref q9), (0, .ref x), (1, .int v), (2, .int v2), (3, .ref o)] (by decide) rfl ?_
  refine q_iconst (v := nI 1) C dL_line_15 16 rfl (by decide) ?_
  exact q_iret C B dL_line_16 rfl rfl (fun t1 ht1 => ⟨rfl, rfl⟩)

set_option maxHeartbeats 400000 in
theorem c_L_line_x2 (l : Launch) {D : va_G} {tys : List (ClassId × FieldType)} {Z : (Nat → Prop) → State → Heap → Prop} (hZ : q_St Z) {cJ : ClassId} (hJ : tys[2]? = some (cJ, .long)) (hXs : q_Xs Z) (x o : Nat) (v : Int32) (v2 : Int32) {rm : Room} {w : va_W} (hw : ∃ fs : List Value, w[0]? = some (x, .inr (5, fs))) (hM : q_Xt l D tys Z yX6_line wsX6_line rm 1 6 [.ref x, .int v, .int v2] [w] "java/lang/IllegalArgumentException") (hf : rm.frames ≤ 10) (hlo : rm.locals ≤ 400) (hc : rm.cells = 1) (hs : rm.slots = 6) (g : Nat → Int64) : q_Ct l D tys Z yL_line wsL_line { frames := 11, cells := 1, slots := 6, locals := 430 } 1 6 [.ref x, .int v, .int v2, .ref o] [w, [(o, .inl (cJ, 1, .inr (.inl g)))]] (fun v0 R0 _ => v0 = some (.int (nI 2)) ∧ R0 = [w, [(o, .inl (cJ, 1, .inr (.inl g)))]]) := by
  refine q_ctW (cc := cL_line) (maxL := 5) (ret := some .int) (own := RL) (hh := [(0, 10, 13, 13), (0, 10, 17, 20)]) (by decide) rfl hZ (Nat.le_of_ble_eq_true rfl) rfl ?_
  intro p9 e9 R s9 m9 args below meth c9 A Q C B TB
  have hts := C.2.2.2.2.1
  refine q_eqL (L' := [(0, .ref x), (1, .int v), (2, .int v2), (3, .ref o)]) rfl ?_
  refine q_aload_n C dL_line_0 1 3 rfl rfl ?_
  refine q_iconst (v := nI 0) C dL_line_1 2 rfl (by decide) ?_
  refine q_aload_n C dL_line_2 3 0 rfl rfl ?_
  refine q_iload_n C dL_line_3 4 1 rfl rfl ?_
  refine q_iload_n C dL_line_4 5 2 rfl rfl ?_
  refine q_callXV (k := 0) (ci := 5) (n := 2) (As := [.int v, .int v2]) (rest := [.int (nI 0), .ref o]) (Rr := [[(o, .inl (cJ, 1, .inr (.inl g)))]]) C rfl hw rfl hM gL_line_X6_line rfl hc hs (by decide +kernel) B.1 ⟨by show _ ≤ 11; omega, by show 8 + (3 + 11) + _ ≤ 430; omega⟩ rfl rfl (Nat.le_of_ble_eq_true rfl) dL_line_5 ⟨by show 0 + 1 ≤ 1; omega, by show 0 + 6 ≤ 6; omega⟩ [0] [1] (by decide : ([0] ++ ([1] : List Nat)).Perm (List.range 2)) rfl rfl
    [⟨0, 10, 13, 13⟩] ⟨0, 10, 17, 20⟩ [] (TB.trans rfl) (fun z hz => by cases List.mem_singleton.mp hz; exact Or.inr ⟨by decide, "java/lang/IndexOutOfBoundsException", hts (.classLink RL 13 "java/lang/IndexOutOfBoundsException") (by decide +kernel), (hXs _ _ _ C.2.2.2.2.2.2.2.1).2.2.2 ("java/lang/IllegalArgumentException", "java/lang/IndexOutOfBoundsException") (by decide)⟩) (by decide) (by decide) (hts (.classLink RL 20 "java/lang/IllegalArgumentException") (by decide +kernel)) (va_Nw.use rfl ((hXs _ _ _ C.2.2.2.2.2.2.2.1).1 (.castable "java/lang/IllegalArgumentException" "java/lang/IllegalArgumentException") (by decide +kernel))) 17 rfl (fun q9 => ?_)
  refine q_astore C dL_line_17 19 rfl [(4, .ref q9), (0, .ref x), (1, .int v), (2, .int v2), (3, .ref o)] (by decide) rfl ?_
  refine q_iconst (v := nI 2) C dL_line_19 20 rfl (by decide) ?_
  exact q_iret C B dL_line_20 rfl rfl (fun t1 ht1 => ⟨rfl, rfl⟩)

set_option maxHeartbeats 400000 in
theorem c_L_count_ok (l : Launch) {D : va_G} {tys : List (ClassId × FieldType)} {Z : (Nat → Prop) → State → Heap → Prop} (hZ : q_St Z) {cJ : ClassId} (hJ : tys[2]? = some (cJ, .long)) (x o : Nat) (v : Int32) {rm : Room} {mc ms : Nat} {r : Int32} {w : va_W} (hw : ∃ fs : List Value, w[0]? = some (x, .inr (5, fs))) {Post : Option Value → List va_W → State → Prop} (hM : q_Ct l D tys Z yX6_count wsX6_count rm mc ms [.ref x, .int v] [w] Post) (hf : rm.frames ≤ 10) (hlo : rm.locals ≤ 400) (hc : rm.cells = mc) (hs : rm.slots = ms) (hp : ∀ v0 R t, Post v0 R t → v0 = some (.int r)) (g : Nat → Int64) : q_Ct l D tys Z yL_count wsL_count { frames := 11, cells := mc, slots := ms, locals := 430 } mc ms [.ref x, .int v, .ref o] [w, [(o, .inl (cJ, 1, .inr (.inl g)))]] (fun v0 R0 _ => v0 = some (.int (nI 0)) ∧ ∃ R t, Post (some (.int r)) R t ∧ R0 = [R.flatten, [(o, .inl (cJ, 1, .inr (.inl (va_up g 0 r.toInt64))))]]) := by
  refine q_ctW (cc := cL_count) (maxL := 4) (ret := some .int) (own := RL) (hh := [(0, 9, 12, 20)]) (by decide) rfl hZ (Nat.le_of_ble_eq_true rfl) rfl ?_
  intro p9 e9 R s9 m9 args below meth c9 A Q C B TB
  have hts := C.2.2.2.2.1
  refine q_eqL (L' := [(0, .ref x), (1, .int v), (2, .ref o)]) rfl ?_
  refine q_aload_n C dL_count_0 1 2 rfl rfl ?_
  refine q_iconst (v := nI 0) C dL_count_1 2 rfl (by decide) ?_
  refine q_aload_n C dL_count_2 3 0 rfl rfl ?_
  refine q_iload_n C dL_count_3 4 1 rfl rfl ?_
  refine q_callV (k := 0) (ci := 5) (n := 1) (As := [.int v]) (rest := [.int (nI 0), .ref o]) (Rr := [[(o, .inl (cJ, 1, .inr (.inl g)))]]) C rfl hw rfl hM gL_count_X6_count rfl hc hs (by decide +kernel) B.1 ⟨by show _ ≤ 11; omega, by show 8 + (2 + 11) + _ ≤ 430; omega⟩ rfl rfl (Nat.le_of_ble_eq_true rfl) dL_count_4 ⟨by show 0 + mc ≤ mc; omega, by show 0 + ms ≤ ms; omega⟩ [0] [1] (by decide : ([0] ++ ([1] : List Nat)).Perm (List.range 2)) rfl rfl 7 rfl (fun v0 R0 t0 ht0 hp0 => ?_)
  obtain rfl := hp _ _ _ hp0
  refine q_eqs (st' := [.int r, .int (nI 0), .ref o]) rfl ?_
  refine q_resp (Rs' := [R0.flatten, [(o, .inl (cJ, 1, .inr (.inl g)))]]) (by simp) ?_
  refine q_eqn (cells' := mc) (slots' := ms) (by omega) (by omega) ?_
  refine q_i2l (v := r.toInt64) C dL_count_7 8 rfl rfl ?_
  refine q_last (k := 1) (j := 0) C dL_count_8 9 rfl rfl rfl hJ 0 rfl (by decide) (by decide) [R0.flatten, [(o, .inl (cJ, 1, .inr (.inl (va_up g 0 r.toInt64))))]] rfl ?_
  refine q_goto C dL_count_9 15 (by decide) ?_
  refine q_iconst (v := nI 0) C dL_count_15 16 rfl (by decide) ?_
  exact q_iret C B dL_count_16 rfl rfl (fun t1 ht1 => ⟨rfl, R0, t0, hp0, rfl⟩)

set_option maxHeartbeats 400000 in
theorem c_L_count_x1 (l : Launch) {D : va_G} {tys : List (ClassId × FieldType)} {Z : (Nat → Prop) → State → Heap → Prop} (hZ : q_St Z) {cJ : ClassId} (hJ : tys[2]? = some (cJ, .long)) (hXs : q_Xs Z) (x o : Nat) (v : Int32) {rm : Room} {w : va_W} (hw : ∃ fs : List Value, w[0]? = some (x, .inr (5, fs))) (hM : q_Xt l D tys Z yX6_count wsX6_count rm 1 6 [.ref x, .int v] [w] "java/lang/IllegalArgumentException") (hf : rm.frames ≤ 10) (hlo : rm.locals ≤ 400) (hc : rm.cells = 1) (hs : rm.slots = 6) (g : Nat → Int64) : q_Ct l D tys Z yL_count wsL_count { frames := 11, cells := 1, slots := 6, locals := 430 } 1 6 [.ref x, .int v, .ref o] [w, [(o, .inl (cJ, 1, .inr (.inl g)))]] (fun v0 R0 _ => v0 = some (.int (nI 1)) ∧ R0 = [w, [(o, .inl (cJ, 1, .inr (.inl g)))]]) := by
  refine q_ctW (cc := cL_count) (maxL := 4) (ret := some .int) (own := RL) (hh := [(0, 9, 12, 20)]) (by decide) rfl hZ (Nat.le_of_ble_eq_true rfl) rfl ?_
  intro p9 e9 R s9 m9 args below meth c9 A Q C B TB
  have hts := C.2.2.2.2.1
  refine q_eqL (L' := [(0, .ref x), (1, .int v), (2, .ref o)]) rfl ?_
  refine q_aload_n C dL_count_0 1 2 rfl rfl ?_
  refine q_iconst (v := nI 0) C dL_count_1 2 rfl (by decide) ?_
  refine q_aload_n C dL_count_2 3 0 rfl rfl ?_
  refine q_iload_n C dL_count_3 4 1 rfl rfl ?_
  refine q_callXV (k := 0) (ci := 5) (n := 1) (As := [.int v]) (rest := [.int (nI 0), .ref o]) (Rr := [[(o, .inl (cJ, 1, .inr (.inl g)))]]) C rfl hw rfl hM gL_count_X6_count rfl hc hs (by decide +kernel) B.1 ⟨by show _ ≤ 11; omega, by show 8 + (2 + 11) + _ ≤ 430; omega⟩ rfl rfl (Nat.le_of_ble_eq_true rfl) dL_count_4 ⟨by show 0 + 1 ≤ 1; omega, by show 0 + 6 ≤ 6; omega⟩ [0] [1] (by decide : ([0] ++ ([1] : List Nat)).Perm (List.range 2)) rfl rfl
    [] ⟨0, 9, 12, 20⟩ [] (TB.trans rfl) (fun z hz => nomatch hz) (by decide) (by decide) (hts (.classLink RL 20 "java/lang/IllegalArgumentException") (by decide +kernel)) (va_Nw.use rfl ((hXs _ _ _ C.2.2.2.2.2.2.2.1).1 (.castable "java/lang/IllegalArgumentException" "java/lang/IllegalArgumentException") (by decide +kernel))) 12 rfl (fun q9 => ?_)
  refine q_astore_n C dL_count_12 13 rfl [(3, .ref q9), (0, .ref x), (1, .int v), (2, .ref o)] (by decide) rfl ?_
  refine q_iconst (v := nI 1) C dL_count_13 14 rfl (by decide) ?_
  exact q_iret C B dL_count_14 rfl rfl (fun t1 ht1 => ⟨rfl, rfl⟩)

set_option maxHeartbeats 400000 in
theorem c_L_whyNot_ok (l : Launch) {D : va_G} {tys : List (ClassId × FieldType)} {Z : (Nat → Prop) → State → Heap → Prop} (hZ : q_St Z) {cJ : ClassId} (hJ : tys[2]? = some (cJ, .long)) (x o : Nat) (v : Int32) {rm : Room} {mc ms : Nat} {r : Int32} {w : va_W} (hw : ∃ fs : List Value, w[0]? = some (x, .inr (5, fs))) {Post : Option Value → List va_W → State → Prop} (hM : q_Ct l D tys Z yX6_whyNot wsX6_whyNot rm mc ms [.ref x, .int v] [w] Post) (hf : rm.frames ≤ 10) (hlo : rm.locals ≤ 400) (hc : rm.cells = mc) (hs : rm.slots = ms) (hp : ∀ v0 R t, Post v0 R t → v0 = some (.int r)) (g : Nat → Int64) : q_Ct l D tys Z yL_whyNot wsL_whyNot { frames := 11, cells := mc, slots := ms, locals := 430 } mc ms [.ref x, .int v, .ref o] [w, [(o, .inl (cJ, 1, .inr (.inl g)))]] (fun v0 R0 _ => v0 = some (.int (nI 0)) ∧ ∃ R t, Post (some (.int r)) R t ∧ R0 = [R.flatten, [(o, .inl (cJ, 1, .inr (.inl (va_up g 0 r.toInt64))))]]) := by
  refine q_ctW (cc := cL_whyNot) (maxL := 4) (ret := some .int) (own := RL) (hh := [(0, 9, 12, 13)]) (by decide) rfl hZ (Nat.le_of_ble_eq_true rfl) rfl ?_
  intro p9 e9 R s9 m9 args below meth c9 A Q C B TB
  have hts := C.2.2.2.2.1
  refine q_eqL (L' := [(0, .ref x), (1, .int v), (2, .ref o)]) rfl ?_
  refine q_aload_n C dL_whyNot_0 1 2 rfl rfl ?_
  refine q_iconst (v := nI 0) C dL_whyNot_1 2 rfl (by decide) ?_
  refine q_aload_n C dL_whyNot_2 3 0 rfl rfl ?_
  refine q_iload_n C dL_whyNot_3 4 1 rfl rfl ?_
  refine q_callV (k := 0) (ci := 5) (n := 1) (As := [.int v]) (rest := [.int (nI 0), .ref o]) (Rr := [[(o, .inl (cJ, 1, .inr (.inl g)))]]) C rfl hw rfl hM gL_whyNot_X6_whyNot rfl hc hs (by decide +kernel) B.1 ⟨by show _ ≤ 11; omega, by show 8 + (2 + 11) + _ ≤ 430; omega⟩ rfl rfl (Nat.le_of_ble_eq_true rfl) dL_whyNot_4 ⟨by show 0 + mc ≤ mc; omega, by show 0 + ms ≤ ms; omega⟩ [0] [1] (by decide : ([0] ++ ([1] : List Nat)).Perm (List.range 2)) rfl rfl 7 rfl (fun v0 R0 t0 ht0 hp0 => ?_)
  obtain rfl := hp _ _ _ hp0
  refine q_eqs (st' := [.int r, .int (nI 0), .ref o]) rfl ?_
  refine q_resp (Rs' := [R0.flatten, [(o, .inl (cJ, 1, .inr (.inl g)))]]) (by simp) ?_
  refine q_eqn (cells' := mc) (slots' := ms) (by omega) (by omega) ?_
  refine q_i2l (v := r.toInt64) C dL_whyNot_7 8 rfl rfl ?_
  refine q_last (k := 1) (j := 0) C dL_whyNot_8 9 rfl rfl rfl hJ 0 rfl (by decide) (by decide) [R0.flatten, [(o, .inl (cJ, 1, .inr (.inl (va_up g 0 r.toInt64))))]] rfl ?_
  refine q_goto C dL_whyNot_9 15 (by decide) ?_
  refine q_iconst (v := nI 0) C dL_whyNot_15 16 rfl (by decide) ?_
  exact q_iret C B dL_whyNot_16 rfl rfl (fun t1 ht1 => ⟨rfl, R0, t0, hp0, rfl⟩)

set_option maxHeartbeats 400000 in
theorem c_L_whyNot_x1 (l : Launch) {D : va_G} {tys : List (ClassId × FieldType)} {Z : (Nat → Prop) → State → Heap → Prop} (hZ : q_St Z) {cJ : ClassId} (hJ : tys[2]? = some (cJ, .long)) (hXs : q_Xs Z) (x o : Nat) (v : Int32) {rm : Room} {w : va_W} (hw : ∃ fs : List Value, w[0]? = some (x, .inr (5, fs))) (hM : q_Xt l D tys Z yX6_whyNot wsX6_whyNot rm 1 6 [.ref x, .int v] [w] "java/lang/IndexOutOfBoundsException") (hf : rm.frames ≤ 10) (hlo : rm.locals ≤ 400) (hc : rm.cells = 1) (hs : rm.slots = 6) (g : Nat → Int64) : q_Ct l D tys Z yL_whyNot wsL_whyNot { frames := 11, cells := 1, slots := 6, locals := 430 } 1 6 [.ref x, .int v, .ref o] [w, [(o, .inl (cJ, 1, .inr (.inl g)))]] (fun v0 R0 _ => v0 = some (.int (nI 1)) ∧ R0 = [w, [(o, .inl (cJ, 1, .inr (.inl g)))]]) := by
  refine q_ctW (cc := cL_whyNot) (maxL := 4) (ret := some .int) (own := RL) (hh := [(0, 9, 12, 13)]) (by decide) rfl hZ (Nat.le_of_ble_eq_true rfl) rfl ?_
  intro p9 e9 R s9 m9 args below meth c9 A Q C B TB
  have hts := C.2.2.2.2.1
  refine q_eqL (L' := [(0, .ref x), (1, .int v), (2, .ref o)]) rfl ?_
  refine q_aload_n C dL_whyNot_0 1 2 rfl rfl ?_
  refine q_iconst (v := nI 0) C dL_whyNot_1 2 rfl (by decide) ?_
  refine q_aload_n C dL_whyNot_2 3 0 rfl rfl ?_
  refine q_iload_n C dL_whyNot_3 4 1 rfl rfl ?_
  refine q_callXV (k := 0) (ci := 5) (n := 1) (As := [.int v]) (rest := [.int (nI 0), .ref o]) (Rr := [[(o, .inl (cJ, 1, .inr (.inl g)))]]) C rfl hw rfl hM gL_whyNot_X6_whyNot rfl hc hs (by decide +kernel) B.1 ⟨by show _ ≤ 11; omega, by show 8 + (2 + 11) + _ ≤ 430; omega⟩ rfl rfl (Nat.le_of_ble_eq_true rfl) dL_whyNot_4 ⟨by show 0 + 1 ≤ 1; omega, by show 0 + 6 ≤ 6; omega⟩ [0] [1] (by decide : ([0] ++ ([1] : List Nat)).Perm (List.range 2)) rfl rfl
    [] ⟨0, 9, 12, 13⟩ [] (TB.trans rfl) (fun z hz => nomatch hz) (by decide) (by decide) (hts (.classLink RL 13 "java/lang/IndexOutOfBoundsException") (by decide +kernel)) (va_Nw.use rfl ((hXs _ _ _ C.2.2.2.2.2.2.2.1).1 (.castable "java/lang/IndexOutOfBoundsException" "java/lang/IndexOutOfBoundsException") (by decide +kernel))) 12 rfl (fun q9 => ?_)
  refine q_astore_n C dL_whyNot_12 13 rfl [(3, .ref q9), (0, .ref x), (1, .int v), (2, .ref o)] (by decide) rfl ?_
  refine q_iconst (v := nI 1) C dL_whyNot_13 14 rfl (by decide) ?_
  exact q_iret C B dL_whyNot_14 rfl rfl (fun t1 ht1 => ⟨rfl, rfl⟩)

set_option maxHeartbeats 400000 in
theorem c_L_ifSet_ok (l : Launch) {D : va_G} {tys : List (ClassId × FieldType)} {Z : (Nat → Prop) → State → Heap → Prop} (hZ : q_St Z) {cJ : ClassId} (hJ : tys[2]? = some (cJ, .long)) (x o : Nat) (v : Int32) (v2 : Int32) {rm : Room} {mc ms : Nat} {r : Int32} {w : va_W} (hw : ∃ fs : List Value, w[0]? = some (x, .inr (5, fs))) {Post : Option Value → List va_W → State → Prop} (hM : q_Ct l D tys Z yX6_ifSet wsX6_ifSet rm mc ms [.ref x, .int v, .int v2] [w] Post) (hf : rm.frames ≤ 10) (hlo : rm.locals ≤ 400) (hc : rm.cells = mc) (hs : rm.slots = ms) (hp : ∀ v0 R t, Post v0 R t → v0 = some (.int r)) (g : Nat → Int64) : q_Ct l D tys Z yL_ifSet wsL_ifSet { frames := 11, cells := mc, slots := ms, locals := 430 } mc ms [.ref x, .int v, .int v2, .ref o] [w, [(o, .inl (cJ, 1, .inr (.inl g)))]] (fun v0 R0 _ => v0 = some (.int (nI 0)) ∧ ∃ R t, Post (some (.int r)) R t ∧ R0 = [R.flatten, [(o, .inl (cJ, 1, .inr (.inl (va_up g 0 r.toInt64))))]]) := by
  refine q_ctW (cc := cL_ifSet) (maxL := 5) (ret := some .int) (own := RL) (hh := [(0, 10, 13, 13), (0, 10, 17, 20)]) (by decide) rfl hZ (Nat.le_of_ble_eq_true rfl) rfl ?_
  intro p9 e9 R s9 m9 args below meth c9 A Q C B TB
  have hts := C.2.2.2.2.1
  refine q_eqL (L' := [(0, .ref x), (1, .int v), (2, .int v2), (3, .ref o)]) rfl ?_
  refine q_aload_n C dL_ifSet_0 1 3 rfl rfl ?_
  refine q_iconst (v := nI 0) C dL_ifSet_1 2 rfl (by decide) ?_
  refine q_aload_n C dL_ifSet_2 3 0 rfl rfl ?_
  refine q_iload_n C dL_ifSet_3 4 1 rfl rfl ?_
  refine q_iload_n C dL_ifSet_4 5 2 rfl rfl ?_
  refine q_callV (k := 0) (ci := 5) (n := 2) (As := [.int v, .int v2]) (rest := [.int (nI 0), .ref o]) (Rr := [[(o, .inl (cJ, 1, .inr (.inl g)))]]) C rfl hw rfl hM gL_ifSet_X6_ifSet rfl hc hs (by decide +kernel) B.1 ⟨by show _ ≤ 11; omega, by show 8 + (3 + 11) + _ ≤ 430; omega⟩ rfl rfl (Nat.le_of_ble_eq_true rfl) dL_ifSet_5 ⟨by show 0 + mc ≤ mc; omega, by show 0 + ms ≤ ms; omega⟩ [0] [1] (by decide : ([0] ++ ([1] : List Nat)).Perm (List.range 2)) rfl rfl 8 rfl (fun v0 R0 t0 ht0 hp0 => ?_)
  obtain rfl := hp _ _ _ hp0
  refine q_eqs (st' := [.int r, .int (nI 0), .ref o]) rfl ?_
  refine q_resp (Rs' := [R0.flatten, [(o, .inl (cJ, 1, .inr (.inl g)))]]) (by simp) ?_
  refine q_eqn (cells' := mc) (slots' := ms) (by omega) (by omega) ?_
  refine q_i2l (v := r.toInt64) C dL_ifSet_8 9 rfl rfl ?_
  refine q_last (k := 1) (j := 0) C dL_ifSet_9 10 rfl rfl rfl hJ 0 rfl (by decide) (by decide) [R0.flatten, [(o, .inl (cJ, 1, .inr (.inl (va_up g 0 r.toInt64))))]] rfl ?_
  refine q_goto C dL_ifSet_10 21 (by decide) ?_
  refine q_iconst (v := nI 0) C dL_ifSet_21 22 rfl (by decide) ?_
  exact q_iret C B dL_ifSet_22 rfl rfl (fun t1 ht1 => ⟨rfl, R0, t0, hp0, rfl⟩)

set_option maxHeartbeats 400000 in
theorem c_L_ifSet_x1 (l : Launch) {D : va_G} {tys : List (ClassId × FieldType)} {Z : (Nat → Prop) → State → Heap → Prop} (hZ : q_St Z) {cJ : ClassId} (hJ : tys[2]? = some (cJ, .long)) (hXs : q_Xs Z) (x o : Nat) (v : Int32) (v2 : Int32) {rm : Room} {w : va_W} (hw : ∃ fs : List Value, w[0]? = some (x, .inr (5, fs))) (hM : q_Xt l D tys Z yX6_ifSet wsX6_ifSet rm 1 6 [.ref x, .int v, .int v2] [w] "java/lang/IndexOutOfBoundsException") (hf : rm.frames ≤ 10) (hlo : rm.locals ≤ 400) (hc : rm.cells = 1) (hs : rm.slots = 6) (g : Nat → Int64) : q_Ct l D tys Z yL_ifSet wsL_ifSet { frames := 11, cells := 1, slots := 6, locals := 430 } 1 6 [.ref x, .int v, .int v2, .ref o] [w, [(o, .inl (cJ, 1, .inr (.inl g)))]] (fun v0 R0 _ => v0 = some (.int (nI 1)) ∧ R0 = [w, [(o, .inl (cJ, 1, .inr (.inl g)))]]) := by
  refine q_ctW (cc := cL_ifSet) (maxL := 5) (ret := some .int) (own := RL) (hh := [(0, 10, 13, 13), (0, 10, 17, 20)]) (by decide) rfl hZ (Nat.le_of_ble_eq_true rfl) rfl ?_
  intro p9 e9 R s9 m9 args below meth c9 A Q C B TB
  have hts := C.2.2.2.2.1
  refine q_eqL (L' := [(0, .ref x), (1, .int v), (2, .int v2), (3, .ref o)]) rfl ?_
  refine q_aload_n C dL_ifSet_0 1 3 rfl rfl ?_
  refine q_iconst (v := nI 0) C dL_ifSet_1 2 rfl (by decide) ?_
  refine q_aload_n C dL_ifSet_2 3 0 rfl rfl ?_
  refine q_iload_n C dL_ifSet_3 4 1 rfl rfl ?_
  refine q_iload_n C dL_ifSet_4 5 2 rfl rfl ?_
  refine q_callXV (k := 0) (ci := 5) (n := 2) (As := [.int v, .int v2]) (rest := [.int (nI 0), .ref o]) (Rr := [[(o, .inl (cJ, 1, .inr (.inl g)))]]) C rfl hw rfl hM gL_ifSet_X6_ifSet rfl hc hs (by decide +kernel) B.1 ⟨by show _ ≤ 11; omega, by show 8 + (3 + 11) + _ ≤ 430; omega⟩ rfl rfl (Nat.le_of_ble_eq_true rfl) dL_ifSet_5 ⟨by show 0 + 1 ≤ 1; omega, by show 0 + 6 ≤ 6; omega⟩ [0] [1] (by decide : ([0] ++ ([1] : List Nat)).Perm (List.range 2)) rfl rfl
    [] ⟨0, 10, 13, 13⟩ [⟨0, 10, 17, 20⟩] (TB.trans rfl) (fun z hz => nomatch hz) (by decide) (by decide) (hts (.classLink RL 13 "java/lang/IndexOutOfBoundsException") (by decide +kernel)) (va_Nw.use rfl ((hXs _ _ _ C.2.2.2.2.2.2.2.1).1 (.castable "java/lang/IndexOutOfBoundsException" "java/lang/IndexOutOfBoundsException") (by decide +kernel))) 13 rfl (fun q9 => ?_)
  refine q_astore C dL_ifSet_13 15 rfl [(4, .ref q9), (0, .ref x), (1, .int v), (2, .int v2), (3, .ref o)] (by decide) rfl ?_
  refine q_iconst (v := nI 1) C dL_ifSet_15 16 rfl (by decide) ?_
  exact q_iret C B dL_ifSet_16 rfl rfl (fun t1 ht1 => ⟨rfl, rfl⟩)

set_option maxHeartbeats 400000 in
theorem c_L_ifSet_x2 (l : Launch) {D : va_G} {tys : List (ClassId × FieldType)} {Z : (Nat → Prop) → State → Heap → Prop} (hZ : q_St Z) {cJ : ClassId} (hJ : tys[2]? = some (cJ, .long)) (hXs : q_Xs Z) (x o : Nat) (v : Int32) (v2 : Int32) {rm : Room} {w : va_W} (hw : ∃ fs : List Value, w[0]? = some (x, .inr (5, fs))) (hM : q_Xt l D tys Z yX6_ifSet wsX6_ifSet rm 1 6 [.ref x, .int v, .int v2] [w] "java/lang/IllegalArgumentException") (hf : rm.frames ≤ 10) (hlo : rm.locals ≤ 400) (hc : rm.cells = 1) (hs : rm.slots = 6) (g : Nat → Int64) : q_Ct l D tys Z yL_ifSet wsL_ifSet { frames := 11, cells := 1, slots := 6, locals := 430 } 1 6 [.ref x, .int v, .int v2, .ref o] [w, [(o, .inl (cJ, 1, .inr (.inl g)))]] (fun v0 R0 _ => v0 = some (.int (nI 2)) ∧ R0 = [w, [(o, .inl (cJ, 1, .inr (.inl g)))]]) := by
  refine q_ctW (cc := cL_ifSet) (maxL := 5) (ret := some .int) (own := RL) (hh := [(0, 10, 13, 13), (0, 10, 17, 20)]) (by decide) rfl hZ (Nat.le_of_ble_eq_true rfl) rfl ?_
  intro p9 e9 R s9 m9 args below meth c9 A Q C B TB
  have hts := C.2.2.2.2.1
  refine q_eqL (L' := [(0, .ref x), (1, .int v), (2, .int v2), (3, .ref o)]) rfl ?_
  refine q_aload_n C dL_ifSet_0 1 3 rfl rfl ?_
  refine q_iconst (v := nI 0) C dL_ifSet_1 2 rfl (by decide) ?_
  refine q_aload_n C dL_ifSet_2 3 0 rfl rfl ?_
  refine q_iload_n C dL_ifSet_3 4 1 rfl rfl ?_
  refine q_iload_n C dL_ifSet_4 5 2 rfl rfl ?_
  refine q_callXV (k := 0) (ci := 5) (n := 2) (As := [.int v, .int v2]) (rest := [.int (nI 0), .ref o]) (Rr := [[(o, .inl (cJ, 1, .inr (.inl g)))]]) C rfl hw rfl hM gL_ifSet_X6_ifSet rfl hc hs (by decide +kernel) B.1 ⟨by show _ ≤ 11; omega, by show 8 + (3 + 11) + _ ≤ 430; omega⟩ rfl rfl (Nat.le_of_ble_eq_true rfl) dL_ifSet_5 ⟨by show 0 + 1 ≤ 1; omega, by show 0 + 6 ≤ 6; omega⟩ [0] [1] (by decide : ([0] ++ ([1] : List Nat)).Perm (List.range 2)) rfl rfl
    [⟨0, 10, 13, 13⟩] ⟨0, 10, 17, 20⟩ [] (TB.trans rfl) (fun z hz => by cases List.mem_singleton.mp hz; exact Or.inr ⟨by decide, "java/lang/IndexOutOfBoundsException", hts (.classLink RL 13 "java/lang/IndexOutOfBoundsException") (by decide +kernel), (hXs _ _ _ C.2.2.2.2.2.2.2.1).2.2.2 ("java/lang/IllegalArgumentException", "java/lang/IndexOutOfBoundsException") (by decide)⟩) (by decide) (by decide) (hts (.classLink RL 20 "java/lang/IllegalArgumentException") (by decide +kernel)) (va_Nw.use rfl ((hXs _ _ _ C.2.2.2.2.2.2.2.1).1 (.castable "java/lang/IllegalArgumentException" "java/lang/IllegalArgumentException") (by decide +kernel))) 17 rfl (fun q9 => ?_)
  refine q_astore C dL_ifSet_17 19 rfl [(4, .ref q9), (0, .ref x), (1, .int v), (2, .int v2), (3, .ref o)] (by decide) rfl ?_
  refine q_iconst (v := nI 2) C dL_ifSet_19 20 rfl (by decide) ?_
  exact q_iret C B dL_ifSet_20 rfl rfl (fun t1 ht1 => ⟨rfl, rfl⟩)
