set_option maxHeartbeats 4000000 in
set_option maxRecDepth 100000 in
theorem c_X2_copyFrom (l : Launch) {D : va_G} {tys : List (ClassId × FieldType)} {Z : (Nat → Prop) → State → Heap → Prop} (hZ : q_St Z) {cI : ClassId} (hI : tys[0]? = some (cI, .int)) (h0 : Nat) (ln : List (Nat × Nat)) (w : va_W) (h : k_isL cI h0 ln w) (h1 : Nat) (oln : List (Nat × Nat)) (ow : va_W) (oh : k_isL cI h1 oln ow) : q_Ct l D tys Z yX2_copyFrom wsX2_copyFrom ({ frames := 1, cells := 0, slots := 0, locals := 42 } : Room) 0 0 [.ref h0, .ref h1] [w, ow] (fun v0 R0 _ => v0 = none ∧ ∃ w', k_isL cI h0 oln w' ∧ R0 = [w', ow]) := by
  have hcI := hI
  refine q_ct (cc := cX2_copyFrom) (maxL := 3) (ret := none) (own := RX2) (by decide) rfl hZ (Nat.le_of_ble_eq_true rfl) rfl ?_
  intro p9 e9 R s9 m9 args below meth c9 A Q C B
  have hts := C.2.2.2.2.1
  have hinX2 : ∀ w ∈ u_ws RX2 TX2 3, w ∈ wsX2_copyFrom := by decide +kernel
  have f9 := hts (.fieldLink RX2 9 "SortCases$Line" "sorts" "[I") (by decide +kernel)
  have f15 := hts (.fieldLink RX2 15 "SortCases$Line" "letters" "[I") (by decide +kernel)
  have f18 := hts (.fieldLink RX2 18 "SortCases$Line" "length" "I") (by decide +kernel)
  refine q_eqL (L' := [(0, .ref h0), (1, .ref h1)]) rfl ?_
  obtain ⟨hlok, hs, hl, f1, f2, hrel, rfl⟩ := h
  have hlen := hlok.1
  have hL : k_isL cI h0 ln [(h0, .inr (2, [.ref hs, .ref hl, .int (nI ln.length)])), (hs, .inl (cI, 72, .inl f1)), (hl, .inl (cI, 72, .inl f2))] := ⟨hlok, hs, hl, f1, f2, hrel, rfl⟩
  obtain ⟨hloko, hso, hlo, f1o, f2o, hrelo, rfl⟩ := oh
  have hleno := hloko.1
  have hLo : k_isL cI h1 oln [(h1, .inr (2, [.ref hso, .ref hlo, .int (nI oln.length)])), (hso, .inl (cI, 72, .inl f1o)), (hlo, .inl (cI, 72, .inl f2o))] := ⟨hloko, hso, hlo, f1o, f2o, hrelo, rfl⟩
  refine q_iconst (v := nI 0) C dX2_copyFrom_0 1 rfl (by decide) ?_
  refine q_istore_n C dX2_copyFrom_1 2 rfl [(2, .int (nI 0)), (0, .ref h0), (1, .ref h1)] (by decide) rfl ?_
  have lp1 : ∀ (kk : Nat) (i1 : Nat) (y1 : Nat → Int32), 72 - i1 < kk → ∀ (hii1 : i1 ≤ 72), ∀ (hfy1 : ∀ q, q < i1 → y1 q = f1o q), q_V p9 l e9 R s9 m9 args below meth c9 D A 3 Q 0 0 2 [(2, .int (nI i1)), (0, .ref h0), (1, .ref h1)] [] [[(h0, .inr (2, [.ref hs, .ref hl, .int (nI ln.length)])), (hs, .inl (cI, 72, .inl y1)), (hl, .inl (cI, 72, .inl f2))], [(h1, .inr (2, [.ref hso, .ref hlo, .int (nI oln.length)])), (hso, .inl (cI, 72, .inl f1o)), (hlo, .inl (cI, 72, .inl f2o))]] := by
    intro kk
    induction kk with
    | zero => intro i1 y1 hkk; exact absurd hkk (Nat.not_lt_zero _)
    | succ kk ih_lp1 =>
      intro i1 y1 hkk hii1 hfy1
      refine q_iload_n C dX2_copyFrom_2 3 0 rfl rfl ?_
      refine q_aload_n C dX2_copyFrom_3 4 1 rfl rfl ?_
      refine q_get (k := 0) (j := 0) (f := 0) C hinX2 f9 (fun _ h => h) (by decide) rfl dX2_copyFrom_4 7 rfl rfl rfl rfl ?_
      refine q_alen (k := 0) (j := 1) (v := nI 72) C dX2_copyFrom_7 8 rfl rfl rfl hcI rfl ?_
      refine q_icmp_ge C dX2_copyFrom_8 11 38 rfl (by decide) (nI_leI (by omega) (by omega)) (fun h8 => ?_) (fun h8 => ?_)
      · refine q_iconst (v := nI 0) C dX2_copyFrom_38 39 rfl (by decide) ?_
        refine q_istore_n C dX2_copyFrom_39 40 rfl [(2, .int (nI 0)), (0, .ref h0), (1, .ref h1)] (by decide) rfl ?_
        have lp2 : ∀ (kk : Nat) (i2 : Nat) (y2 : Nat → Int32), 72 - i2 < kk → ∀ (hii2 : i2 ≤ 72), ∀ (hfy2 : ∀ q, q < i2 → y2 q = f2o q), q_V p9 l e9 R s9 m9 args below meth c9 D A 3 Q 0 0 40 [(2, .int (nI i2)), (0, .ref h0), (1, .ref h1)] [] [[(h0, .inr (2, [.ref hs, .ref hl, .int (nI ln.length)])), (hs, .inl (cI, 72, .inl y1)), (hl, .inl (cI, 72, .inl y2))], [(h1, .inr (2, [.ref hso, .ref hlo, .int (nI oln.length)])), (hso, .inl (cI, 72, .inl f1o)), (hlo, .inl (cI, 72, .inl f2o))]] := by
          intro kk
          induction kk with
          | zero => intro i2 y2 hkk; exact absurd hkk (Nat.not_lt_zero _)
          | succ kk ih_lp2 =>
            intro i2 y2 hkk hii2 hfy2
            refine q_iload_n C dX2_copyFrom_40 41 0 rfl rfl ?_
            refine q_aload_n C dX2_copyFrom_41 42 1 rfl rfl ?_
            refine q_get (k := 0) (j := 0) (f := 1) C hinX2 f15 (fun _ h => h) (by decide) rfl dX2_copyFrom_42 45 rfl rfl rfl rfl ?_
            refine q_alen (k := 0) (j := 2) (v := nI 72) C dX2_copyFrom_45 46 rfl rfl rfl hcI rfl ?_
            refine q_icmp_ge C dX2_copyFrom_46 49 76 rfl (by decide) (nI_leI (by omega) (by omega)) (fun h46 => ?_) (fun h46 => ?_)
            · refine q_aload_n C dX2_copyFrom_76 77 1 rfl rfl ?_
              refine q_aload_n C dX2_copyFrom_77 78 2 rfl rfl ?_
              refine q_get (k := 1) (j := 0) (f := 2) C hinX2 f18 (fun _ h => h) (by decide) rfl dX2_copyFrom_78 81 rfl rfl rfl rfl ?_
              refine q_put (k := 0) (j := 0) (f := 2) C hinX2 tyX2 tyX2_ok nmX2 f18 (fun _ h => h) (by decide) rfl rfl (tyX2_ok 2 (by decide)) rfl rfl dX2_copyFrom_81 84 rfl rfl rfl (Nat.le_of_ble_eq_true rfl) [[(h0, .inr (2, [.ref hs, .ref hl, .int (nI oln.length)])), (hs, .inl (cI, 72, .inl y1)), (hl, .inl (cI, 72, .inl y2))], [(h1, .inr (2, [.ref hso, .ref hlo, .int (nI oln.length)])), (hso, .inl (cI, 72, .inl f1o)), (hlo, .inl (cI, 72, .inl f2o))]] rfl ?_
              exact q_vret C B dX2_copyFrom_84 rfl rfl (fun t0 ht0 => ⟨rfl, _, ⟨hloko, hs, hl, _, _, k_LR_cong hloko hrelo (fun q hq => hfy1 q (by omega)) (fun q hq => hfy2 q (by omega)), rfl⟩, rfl⟩)
            · refine q_iload_n C dX2_copyFrom_49 50 0 rfl rfl ?_
              refine q_aload_n C dX2_copyFrom_50 51 2 rfl rfl ?_
              refine q_get (k := 1) (j := 0) (f := 1) C hinX2 f15 (fun _ h => h) (by decide) rfl dX2_copyFrom_51 54 rfl rfl rfl rfl ?_
              refine q_alen (k := 1) (j := 2) (v := nI 72) C dX2_copyFrom_54 55 rfl rfl rfl hcI rfl ?_
              refine q_icmp_ge C dX2_copyFrom_55 58 76 rfl (by decide) (nI_leI (by omega) (by omega)) (fun h55 => False.elim (by first | omega | simp_all)) (fun h55 => ?_)
              refine q_aload_n C dX2_copyFrom_58 59 1 rfl rfl ?_
              refine q_get (k := 0) (j := 0) (f := 1) C hinX2 f15 (fun _ h => h) (by decide) rfl dX2_copyFrom_59 62 rfl rfl rfl rfl ?_
              refine q_iload_n C dX2_copyFrom_62 63 0 rfl rfl ?_
              refine q_aload_n C dX2_copyFrom_63 64 2 rfl rfl ?_
              refine q_get (k := 1) (j := 0) (f := 1) C hinX2 f15 (fun _ h => h) (by decide) rfl dX2_copyFrom_64 67 rfl rfl rfl rfl ?_
              refine q_iload_n C dX2_copyFrom_67 68 0 rfl rfl ?_
              refine q_iald (k := 1) (j := 2) (v := f2o i2) C dX2_copyFrom_68 69 rfl rfl rfl hcI i2 rfl (by omega) (by decide) rfl ?_
              refine q_iast (k := 0) (j := 2) C dX2_copyFrom_69 70 rfl rfl rfl hcI i2 rfl (by omega) (by decide) [[(h0, .inr (2, [.ref hs, .ref hl, .int (nI ln.length)])), (hs, .inl (cI, 72, .inl y1)), (hl, .inl (cI, 72, .inl (upd y2 i2 (f2o i2))))], [(h1, .inr (2, [.ref hso, .ref hlo, .int (nI oln.length)])), (hso, .inl (cI, 72, .inl f1o)), (hlo, .inl (cI, 72, .inl f2o))]] rfl ?_
              refine q_iinc (v := nI (i2 + 1)) C dX2_copyFrom_70 73 0 rfl rfl (q_ninc1 (by omega)) [(2, .int (nI (i2 + 1))), (0, .ref h0), (1, .ref h1)] (by decide) rfl ?_
              refine q_goto C dX2_copyFrom_73 40 (by decide) ?_
              refine q_sub (L' := [(2, .int (nI (i2 + 1))), (0, .ref h0), (1, .ref h1)]) [0, 1, 2] rfl ?_
              exact ih_lp2 (i2 + 1) (upd y2 i2 (f2o i2)) (by omega) (by omega) (fun q hq => (Decidable.em (q = i2)).elim (fun e => by subst e; rw [pk_us]) (fun e => by rw [pk_un e]; exact hfy2 q (by omega)))
        refine q_sub (L' := [(2, .int (nI 0)), (0, .ref h0), (1, .ref h1)]) [0, 1, 2] rfl ?_
        exact lp2 _ 0 f2 (Nat.lt_succ_self _) (by omega) (fun q hq => absurd hq (Nat.not_lt_zero q))
      · refine q_iload_n C dX2_copyFrom_11 12 0 rfl rfl ?_
        refine q_aload_n C dX2_copyFrom_12 13 2 rfl rfl ?_
        refine q_get (k := 1) (j := 0) (f := 0) C hinX2 f9 (fun _ h => h) (by decide) rfl dX2_copyFrom_13 16 rfl rfl rfl rfl ?_
        refine q_alen (k := 1) (j := 1) (v := nI 72) C dX2_copyFrom_16 17 rfl rfl rfl hcI rfl ?_
        refine q_icmp_ge C dX2_copyFrom_17 20 38 rfl (by decide) (nI_leI (by omega) (by omega)) (fun h17 => False.elim (by first | omega | simp_all)) (fun h17 => ?_)
        refine q_aload_n C dX2_copyFrom_20 21 1 rfl rfl ?_
        refine q_get (k := 0) (j := 0) (f := 0) C hinX2 f9 (fun _ h => h) (by decide) rfl dX2_copyFrom_21 24 rfl rfl rfl rfl ?_
        refine q_iload_n C dX2_copyFrom_24 25 0 rfl rfl ?_
        refine q_aload_n C dX2_copyFrom_25 26 2 rfl rfl ?_
        refine q_get (k := 1) (j := 0) (f := 0) C hinX2 f9 (fun _ h => h) (by decide) rfl dX2_copyFrom_26 29 rfl rfl rfl rfl ?_
        refine q_iload_n C dX2_copyFrom_29 30 0 rfl rfl ?_
        refine q_iald (k := 1) (j := 1) (v := f1o i1) C dX2_copyFrom_30 31 rfl rfl rfl hcI i1 rfl (by omega) (by decide) rfl ?_
        refine q_iast (k := 0) (j := 1) C dX2_copyFrom_31 32 rfl rfl rfl hcI i1 rfl (by omega) (by decide) [[(h0, .inr (2, [.ref hs, .ref hl, .int (nI ln.length)])), (hs, .inl (cI, 72, .inl (upd y1 i1 (f1o i1)))), (hl, .inl (cI, 72, .inl f2))], [(h1, .inr (2, [.ref hso, .ref hlo, .int (nI oln.length)])), (hso, .inl (cI, 72, .inl f1o)), (hlo, .inl (cI, 72, .inl f2o))]] rfl ?_
        refine q_iinc (v := nI (i1 + 1)) C dX2_copyFrom_32 35 0 rfl rfl (q_ninc1 (by omega)) [(2, .int (nI (i1 + 1))), (0, .ref h0), (1, .ref h1)] (by decide) rfl ?_
        refine q_goto C dX2_copyFrom_35 2 (by decide) ?_
        refine q_sub (L' := [(2, .int (nI (i1 + 1))), (0, .ref h0), (1, .ref h1)]) [0, 1, 2] rfl ?_
        exact ih_lp1 (i1 + 1) (upd y1 i1 (f1o i1)) (by omega) (by omega) (fun q hq => (Decidable.em (q = i1)).elim (fun e => by subst e; rw [pk_us]) (fun e => by rw [pk_un e]; exact hfy1 q (by omega)))
  refine q_sub (L' := [(2, .int (nI 0)), (0, .ref h0), (1, .ref h1)]) [0, 1, 2] rfl ?_
  exact lp1 _ 0 f1 (Nat.lt_succ_self _) (by omega) (fun q hq => absurd hq (Nat.not_lt_zero q))

set_option maxHeartbeats 4000000 in
set_option maxRecDepth 100000 in
theorem c_X4_copyFrom (l : Launch) {D : va_G} {tys : List (ClassId × FieldType)} {Z : (Nat → Prop) → State → Heap → Prop} (hZ : q_St Z) {cI : ClassId} (hI : tys[0]? = some (cI, .int)) (h0 : Nat) (aB : Nat) (aL : Nat) (aS : Nat) (sc : Nat → Int32) (wO : va_W) (hO : k_isO cI h0 aB aL aS sc wO) (wA : va_W) (hA : k_isA cI aS sc wA) (bx : k_Bx) (at0 : Nat) (wB : va_W) (hB : k_isB cI aB bx at0 wB) (ln : List (Nat × Nat)) (wL : va_W) (hL : k_isL cI aL ln wL) (h1 : Nat) (oaB : Nat) (oaL : Nat) (oaS : Nat) (osc : Nat → Int32) (owO : va_W) (ohO : k_isO cI h1 oaB oaL oaS osc owO) (owA : va_W) (ohA : k_isA cI oaS osc owA) (obx : k_Bx) (oat0 : Nat) (owB : va_W) (ohB : k_isB cI oaB obx oat0 owB) (oln : List (Nat × Nat)) (owL : va_W) (ohL : k_isL cI oaL oln owL) : q_Ct l D tys Z yX4_copyFrom wsX4_copyFrom ({ frames := 2, cells := 0, slots := 0, locals := 72 } : Room) 0 0 [.ref h0, .ref h1] [wO, wA, wB, wL, owO, owA, owB, owL] (fun v0 R0 _ => v0 = none ∧ ∃ wO', k_isO cI h0 aB aL aS osc wO' ∧ ∃ wA', k_isA cI aS osc wA' ∧ ∃ wB', k_isB cI aB obx oat0 wB' ∧ ∃ wL', k_isL cI aL oln wL' ∧ R0 = [wO', wA', wB', wL', owO, owA, owB, owL]) := by
  have hcI := hI
  refine q_ct (cc := cX4_copyFrom) (maxL := 3) (ret := none) (own := RX4) (by decide) rfl hZ (Nat.le_of_ble_eq_true rfl) rfl ?_
  intro p9 e9 R s9 m9 args below meth c9 A Q C B
  have hts := C.2.2.2.2.1
  have hinX4 : ∀ w ∈ u_ws RX4 TX4 11, w ∈ wsX4_copyFrom := by decide +kernel
  have f12 := hts (.fieldLink RX4 12 "SortCases$State" "boxes" "LSortCases$Boxes;") (by decide +kernel)
  have f21 := hts (.fieldLink RX4 21 "SortCases$State" "line" "LSortCases$Line;") (by decide +kernel)
  have f25 := hts (.fieldLink RX4 25 "SortCases$State" "settings" "[I") (by decide +kernel)
  have f29 := hts (.fieldLink RX4 29 "SortCases$State" "hand" "I") (by decide +kernel)
  have f33 := hts (.fieldLink RX4 33 "SortCases$State" "lettersSet" "I") (by decide +kernel)
  have f36 := hts (.fieldLink RX4 36 "SortCases$State" "typesMoved" "I") (by decide +kernel)
  have f39 := hts (.fieldLink RX4 39 "SortCases$State" "beatsPassed" "I") (by decide +kernel)
  have f42 := hts (.fieldLink RX4 42 "SortCases$State" "corrections" "I") (by decide +kernel)
  have f45 := hts (.fieldLink RX4 45 "SortCases$State" "linesReturned" "I") (by decide +kernel)
  have f48 := hts (.fieldLink RX4 48 "SortCases$State" "stopPart" "I") (by decide +kernel)
  have f51 := hts (.fieldLink RX4 51 "SortCases$State" "stopReason" "I") (by decide +kernel)
  refine q_eqL (L' := [(0, .ref h0), (1, .ref h1)]) rfl ?_
  obtain rfl := hO
  have hOo : k_isO cI h0 aB aL aS sc [(h0, .inr (3, [.ref aB, .ref aL, .ref aS, .int (sc 3), .int (sc 5), .int (sc 6), .int (sc 7), .int (sc 8), .int (sc 9), .int (sc 10), .int (sc 11)]))] := rfl
  obtain ⟨g, hg, rfl⟩ := hA
  have hAo : k_isA cI aS sc [(aS, .inl (cI, 3, .inl g))] := ⟨g, hg, rfl⟩
  obtain rfl := ohO
  have hOoo : k_isO cI h1 oaB oaL oaS osc [(h1, .inr (3, [.ref oaB, .ref oaL, .ref oaS, .int (osc 3), .int (osc 5), .int (osc 6), .int (osc 7), .int (osc 8), .int (osc 9), .int (osc 10), .int (osc 11)]))] := rfl
  obtain ⟨go, hgo, rfl⟩ := ohA
  have hAoo : k_isA cI oaS osc [(oaS, .inl (cI, 3, .inl go))] := ⟨go, hgo, rfl⟩
  refine q_aload_n C dX4_copyFrom_0 1 0 rfl rfl ?_
  refine q_get (k := 0) (j := 0) (f := 0) C hinX4 f12 (fun _ h => h) (by decide) rfl dX4_copyFrom_1 4 rfl rfl rfl rfl ?_
  refine q_aload_n C dX4_copyFrom_4 5 1 rfl rfl ?_
  refine q_get (k := 4) (j := 0) (f := 0) C hinX4 f12 (fun _ h => h) (by decide) rfl dX4_copyFrom_5 8 rfl rfl rfl rfl ?_
  refine q_callV (k := 2) (ci := 0) (n := 1) (rest := []) (Rr := [[(h0, .inr (3, [.ref aB, .ref aL, .ref aS, .int (sc 3), .int (sc 5), .int (sc 6), .int (sc 7), .int (sc 8), .int (sc 9), .int (sc 10), .int (sc 11)]))], [(aS, .inl (cI, 3, .inl g))], wL, [(h1, .inr (3, [.ref oaB, .ref oaL, .ref oaS, .int (osc 3), .int (osc 5), .int (osc 6), .int (osc 7), .int (osc 8), .int (osc 9), .int (osc 10), .int (osc 11)]))], [(oaS, .inl (cI, 3, .inl go))], owL]) C rfl (k_isB_recv hB) rfl (c_X0_copyFrom l hZ hI aB bx at0 wB hB oaB obx oat0 owB ohB) gX4_copyFrom_X0_copyFrom rfl rfl rfl (by decide +kernel) B.1 ⟨Nat.le_of_ble_eq_true rfl, Nat.le_of_ble_eq_true rfl⟩ rfl rfl (Nat.le_of_ble_eq_true rfl) dX4_copyFrom_8 ⟨Nat.le_of_ble_eq_true rfl, Nat.le_of_ble_eq_true rfl⟩ [2, 6] [0, 1, 3, 4, 5, 7] (by decide : ([2, 6] ++ ([0, 1, 3, 4, 5, 7] : List Nat)).Perm (List.range 8)) rfl rfl 11 rfl (fun v0 R0 t0 ht0 hp0 => ?_)
  obtain ⟨rfl, w_8, hw_8, rfl⟩ := hp0
  refine q_eqs (st' := []) rfl ?_
  refine q_reord [2, 3, 0, 4, 5, 6, 1, 7] (by decide : ([2, 3, 0, 4, 5, 6, 1, 7] : List Nat).Perm (List.range 8)) (Rs' := [[(h0, .inr (3, [.ref aB, .ref aL, .ref aS, .int (sc 3), .int (sc 5), .int (sc 6), .int (sc 7), .int (sc 8), .int (sc 9), .int (sc 10), .int (sc 11)]))], [(aS, .inl (cI, 3, .inl g))], w_8, wL, [(h1, .inr (3, [.ref oaB, .ref oaL, .ref oaS, .int (osc 3), .int (osc 5), .int (osc 6), .int (osc 7), .int (osc 8), .int (osc 9), .int (osc 10), .int (osc 11)]))], [(oaS, .inl (cI, 3, .inl go))], owB, owL]) rfl rfl ?_
  refine q_aload_n C dX4_copyFrom_11 12 0 rfl rfl ?_
  refine q_get (k := 0) (j := 0) (f := 1) C hinX4 f21 (fun _ h => h) (by decide) rfl dX4_copyFrom_12 15 rfl rfl rfl rfl ?_
  refine q_aload_n C dX4_copyFrom_15 16 1 rfl rfl ?_
  refine q_get (k := 4) (j := 0) (f := 1) C hinX4 f21 (fun _ h => h) (by decide) rfl dX4_copyFrom_16 19 rfl rfl rfl rfl ?_
  refine q_callV (k := 3) (ci := 2) (n := 1) (rest := []) (Rr := [[(h0, .inr (3, [.ref aB, .ref aL, .ref aS, .int (sc 3), .int (sc 5), .int (sc 6), .int (sc 7), .int (sc 8), .int (sc 9), .int (sc 10), .int (sc 11)]))], [(aS, .inl (cI, 3, .inl g))], w_8, [(h1, .inr (3, [.ref oaB, .ref oaL, .ref oaS, .int (osc 3), .int (osc 5), .int (osc 6), .int (osc 7), .int (osc 8), .int (osc 9), .int (osc 10), .int (osc 11)]))], [(oaS, .inl (cI, 3, .inl go))], owB]) C rfl (k_isL_recv hL) rfl (c_X2_copyFrom l hZ hI aL ln wL hL oaL oln owL ohL) gX4_copyFrom_X2_copyFrom rfl rfl rfl (by decide +kernel) B.1 ⟨Nat.le_of_ble_eq_true rfl, Nat.le_of_ble_eq_true rfl⟩ rfl rfl (Nat.le_of_ble_eq_true rfl) dX4_copyFrom_19 ⟨Nat.le_of_ble_eq_true rfl, Nat.le_of_ble_eq_true rfl⟩ [3, 7] [0, 1, 2, 4, 5, 6] (by decide : ([3, 7] ++ ([0, 1, 2, 4, 5, 6] : List Nat)).Perm (List.range 8)) rfl rfl 22 rfl (fun v0 R0 t0 ht0 hp0 => ?_)
  obtain ⟨rfl, w_19, hw_19, rfl⟩ := hp0
  refine q_eqs (st' := []) rfl ?_
  refine q_reord [2, 3, 4, 0, 5, 6, 7, 1] (by decide : ([2, 3, 4, 0, 5, 6, 7, 1] : List Nat).Perm (List.range 8)) (Rs' := [[(h0, .inr (3, [.ref aB, .ref aL, .ref aS, .int (sc 3), .int (sc 5), .int (sc 6), .int (sc 7), .int (sc 8), .int (sc 9), .int (sc 10), .int (sc 11)]))], [(aS, .inl (cI, 3, .inl g))], w_8, w_19, [(h1, .inr (3, [.ref oaB, .ref oaL, .ref oaS, .int (osc 3), .int (osc 5), .int (osc 6), .int (osc 7), .int (osc 8), .int (osc 9), .int (osc 10), .int (osc 11)]))], [(oaS, .inl (cI, 3, .inl go))], owB, owL]) rfl rfl ?_
  refine q_iconst (v := nI 0) C dX4_copyFrom_22 23 rfl (by decide) ?_
  refine q_istore_n C dX4_copyFrom_23 24 rfl [(2, .int (nI 0)), (0, .ref h0), (1, .ref h1)] (by decide) rfl ?_
  have lp : ∀ (kk : Nat) (i : Nat) (y : Nat → Int32), 3 - i < kk → ∀ (hi : i ≤ 3), ∀ (hy : ∀ q, q < i → y q = osc q), q_V p9 l e9 R s9 m9 args below meth c9 D A 3 Q 0 0 24 [(2, .int (nI i)), (0, .ref h0), (1, .ref h1)] [] [[(h0, .inr (3, [.ref aB, .ref aL, .ref aS, .int (sc 3), .int (sc 5), .int (sc 6), .int (sc 7), .int (sc 8), .int (sc 9), .int (sc 10), .int (sc 11)]))], [(aS, .inl (cI, 3, .inl y))], w_8, w_19, [(h1, .inr (3, [.ref oaB, .ref oaL, .ref oaS, .int (osc 3), .int (osc 5), .int (osc 6), .int (osc 7), .int (osc 8), .int (osc 9), .int (osc 10), .int (osc 11)]))], [(oaS, .inl (cI, 3, .inl go))], owB, owL] := by
    intro kk
    induction kk with
    | zero => intro i y hkk; exact absurd hkk (Nat.not_lt_zero _)
    | succ kk ih_lp =>
      intro i y hkk hi hy
      refine q_iload_n C dX4_copyFrom_24 25 0 rfl rfl ?_
      refine q_aload_n C dX4_copyFrom_25 26 1 rfl rfl ?_
      refine q_get (k := 0) (j := 0) (f := 2) C hinX4 f25 (fun _ h => h) (by decide) rfl dX4_copyFrom_26 29 rfl rfl rfl rfl ?_
      refine q_alen (k := 1) (j := 0) (v := nI 3) C dX4_copyFrom_29 30 rfl rfl rfl hcI rfl ?_
      refine q_icmp_ge C dX4_copyFrom_30 33 60 rfl (by decide) (nI_leI (by omega) (by omega)) (fun h30 => ?_) (fun h30 => ?_)
      · refine q_aload_n C dX4_copyFrom_60 61 1 rfl rfl ?_
        refine q_aload_n C dX4_copyFrom_61 62 2 rfl rfl ?_
        refine q_get (k := 4) (j := 0) (f := 3) C hinX4 f29 (fun _ h => h) (by decide) rfl dX4_copyFrom_62 65 rfl rfl rfl rfl ?_
        refine q_put (k := 0) (j := 0) (f := 3) C hinX4 tyX4 tyX4_ok nmX4 f29 (fun _ h => h) (by decide) rfl rfl (tyX4_ok 3 (by decide)) rfl rfl dX4_copyFrom_65 68 rfl rfl rfl (Nat.le_of_ble_eq_true rfl) [[(h0, .inr (3, [.ref aB, .ref aL, .ref aS, .int (osc 3), .int (sc 5), .int (sc 6), .int (sc 7), .int (sc 8), .int (sc 9), .int (sc 10), .int (sc 11)]))], [(aS, .inl (cI, 3, .inl y))], w_8, w_19, [(h1, .inr (3, [.ref oaB, .ref oaL, .ref oaS, .int (osc 3), .int (osc 5), .int (osc 6), .int (osc 7), .int (osc 8), .int (osc 9), .int (osc 10), .int (osc 11)]))], [(oaS, .inl (cI, 3, .inl go))], owB, owL] rfl ?_
        refine q_aload_n C dX4_copyFrom_68 69 1 rfl rfl ?_
        refine q_aload_n C dX4_copyFrom_69 70 2 rfl rfl ?_
        refine q_get (k := 4) (j := 0) (f := 4) C hinX4 f33 (fun _ h => h) (by decide) rfl dX4_copyFrom_70 73 rfl rfl rfl rfl ?_
        refine q_put (k := 0) (j := 0) (f := 4) C hinX4 tyX4 tyX4_ok nmX4 f33 (fun _ h => h) (by decide) rfl rfl (tyX4_ok 4 (by decide)) rfl rfl dX4_copyFrom_73 76 rfl rfl rfl (Nat.le_of_ble_eq_true rfl) [[(h0, .inr (3, [.ref aB, .ref aL, .ref aS, .int (osc 3), .int (osc 5), .int (sc 6), .int (sc 7), .int (sc 8), .int (sc 9), .int (sc 10), .int (sc 11)]))], [(aS, .inl (cI, 3, .inl y))], w_8, w_19, [(h1, .inr (3, [.ref oaB, .ref oaL, .ref oaS, .int (osc 3), .int (osc 5), .int (osc 6), .int (osc 7), .int (osc 8), .int (osc 9), .int (osc 10), .int (osc 11)]))], [(oaS, .inl (cI, 3, .inl go))], owB, owL] rfl ?_
        refine q_aload_n C dX4_copyFrom_76 77 1 rfl rfl ?_
        refine q_aload_n C dX4_copyFrom_77 78 2 rfl rfl ?_
        refine q_get (k := 4) (j := 0) (f := 5) C hinX4 f36 (fun _ h => h) (by decide) rfl dX4_copyFrom_78 81 rfl rfl rfl rfl ?_
        refine q_put (k := 0) (j := 0) (f := 5) C hinX4 tyX4 tyX4_ok nmX4 f36 (fun _ h => h) (by decide) rfl rfl (tyX4_ok 5 (by decide)) rfl rfl dX4_copyFrom_81 84 rfl rfl rfl (Nat.le_of_ble_eq_true rfl) [[(h0, .inr (3, [.ref aB, .ref aL, .ref aS, .int (osc 3), .int (osc 5), .int (osc 6), .int (sc 7), .int (sc 8), .int (sc 9), .int (sc 10), .int (sc 11)]))], [(aS, .inl (cI, 3, .inl y))], w_8, w_19, [(h1, .inr (3, [.ref oaB, .ref oaL, .ref oaS, .int (osc 3), .int (osc 5), .int (osc 6), .int (osc 7), .int (osc 8), .int (osc 9), .int (osc 10), .int (osc 11)]))], [(oaS, .inl (cI, 3, .inl go))], owB, owL] rfl ?_
        refine q_aload_n C dX4_copyFrom_84 85 1 rfl rfl ?_
        refine q_aload_n C dX4_copyFrom_85 86 2 rfl rfl ?_
        refine q_get (k := 4) (j := 0) (f := 6) C hinX4 f39 (fun _ h => h) (by decide) rfl dX4_copyFrom_86 89 rfl rfl rfl rfl ?_
        refine q_put (k := 0) (j := 0) (f := 6) C hinX4 tyX4 tyX4_ok nmX4 f39 (fun _ h => h) (by decide) rfl rfl (tyX4_ok 6 (by decide)) rfl rfl dX4_copyFrom_89 92 rfl rfl rfl (Nat.le_of_ble_eq_true rfl) [[(h0, .inr (3, [.ref aB, .ref aL, .ref aS, .int (osc 3), .int (osc 5), .int (osc 6), .int (osc 7), .int (sc 8), .int (sc 9), .int (sc 10), .int (sc 11)]))], [(aS, .inl (cI, 3, .inl y))], w_8, w_19, [(h1, .inr (3, [.ref oaB, .ref oaL, .ref oaS, .int (osc 3), .int (osc 5), .int (osc 6), .int (osc 7), .int (osc 8), .int (osc 9), .int (osc 10), .int (osc 11)]))], [(oaS, .inl (cI, 3, .inl go))], owB, owL] rfl ?_
        refine q_aload_n C dX4_copyFrom_92 93 1 rfl rfl ?_
        refine q_aload_n C dX4_copyFrom_93 94 2 rfl rfl ?_
        refine q_get (k := 4) (j := 0) (f := 7) C hinX4 f42 (fun _ h => h) (by decide) rfl dX4_copyFrom_94 97 rfl rfl rfl rfl ?_
        refine q_put (k := 0) (j := 0) (f := 7) C hinX4 tyX4 tyX4_ok nmX4 f42 (fun _ h => h) (by decide) rfl rfl (tyX4_ok 7 (by decide)) rfl rfl dX4_copyFrom_97 100 rfl rfl rfl (Nat.le_of_ble_eq_true rfl) [[(h0, .inr (3, [.ref aB, .ref aL, .ref aS, .int (osc 3), .int (osc 5), .int (osc 6), .int (osc 7), .int (osc 8), .int (sc 9), .int (sc 10), .int (sc 11)]))], [(aS, .inl (cI, 3, .inl y))], w_8, w_19, [(h1, .inr (3, [.ref oaB, .ref oaL, .ref oaS, .int (osc 3), .int (osc 5), .int (osc 6), .int (osc 7), .int (osc 8), .int (osc 9), .int (osc 10), .int (osc 11)]))], [(oaS, .inl (cI, 3, .inl go))], owB, owL] rfl ?_
        refine q_aload_n C dX4_copyFrom_100 101 1 rfl rfl ?_
        refine q_aload_n C dX4_copyFrom_101 102 2 rfl rfl ?_
        refine q_get (k := 4) (j := 0) (f := 8) C hinX4 f45 (fun _ h => h) (by decide) rfl dX4_copyFrom_102 105 rfl rfl rfl rfl ?_
        refine q_put (k := 0) (j := 0) (f := 8) C hinX4 tyX4 tyX4_ok nmX4 f45 (fun _ h => h) (by decide) rfl rfl (tyX4_ok 8 (by decide)) rfl rfl dX4_copyFrom_105 108 rfl rfl rfl (Nat.le_of_ble_eq_true rfl) [[(h0, .inr (3, [.ref aB, .ref aL, .ref aS, .int (osc 3), .int (osc 5), .int (osc 6), .int (osc 7), .int (osc 8), .int (osc 9), .int (sc 10), .int (sc 11)]))], [(aS, .inl (cI, 3, .inl y))], w_8, w_19, [(h1, .inr (3, [.ref oaB, .ref oaL, .ref oaS, .int (osc 3), .int (osc 5), .int (osc 6), .int (osc 7), .int (osc 8), .int (osc 9), .int (osc 10), .int (osc 11)]))], [(oaS, .inl (cI, 3, .inl go))], owB, owL] rfl ?_
        refine q_aload_n C dX4_copyFrom_108 109 1 rfl rfl ?_
        refine q_aload_n C dX4_copyFrom_109 110 2 rfl rfl ?_
        refine q_get (k := 4) (j := 0) (f := 9) C hinX4 f48 (fun _ h => h) (by decide) rfl dX4_copyFrom_110 113 rfl rfl rfl rfl ?_
        refine q_put (k := 0) (j := 0) (f := 9) C hinX4 tyX4 tyX4_ok nmX4 f48 (fun _ h => h) (by decide) rfl rfl (tyX4_ok 9 (by decide)) rfl rfl dX4_copyFrom_113 116 rfl rfl rfl (Nat.le_of_ble_eq_true rfl) [[(h0, .inr (3, [.ref aB, .ref aL, .ref aS, .int (osc 3), .int (osc 5), .int (osc 6), .int (osc 7), .int (osc 8), .int (osc 9), .int (osc 10), .int (sc 11)]))], [(aS, .inl (cI, 3, .inl y))], w_8, w_19, [(h1, .inr (3, [.ref oaB, .ref oaL, .ref oaS, .int (osc 3), .int (osc 5), .int (osc 6), .int (osc 7), .int (osc 8), .int (osc 9), .int (osc 10), .int (osc 11)]))], [(oaS, .inl (cI, 3, .inl go))], owB, owL] rfl ?_
        refine q_aload_n C dX4_copyFrom_116 117 1 rfl rfl ?_
        refine q_aload_n C dX4_copyFrom_117 118 2 rfl rfl ?_
        refine q_get (k := 4) (j := 0) (f := 10) C hinX4 f51 (fun _ h => h) (by decide) rfl dX4_copyFrom_118 121 rfl rfl rfl rfl ?_
        refine q_put (k := 0) (j := 0) (f := 10) C hinX4 tyX4 tyX4_ok nmX4 f51 (fun _ h => h) (by decide) rfl rfl (tyX4_ok 10 (by decide)) rfl rfl dX4_copyFrom_121 124 rfl rfl rfl (Nat.le_of_ble_eq_true rfl) [[(h0, .inr (3, [.ref aB, .ref aL, .ref aS, .int (osc 3), .int (osc 5), .int (osc 6), .int (osc 7), .int (osc 8), .int (osc 9), .int (osc 10), .int (osc 11)]))], [(aS, .inl (cI, 3, .inl y))], w_8, w_19, [(h1, .inr (3, [.ref oaB, .ref oaL, .ref oaS, .int (osc 3), .int (osc 5), .int (osc 6), .int (osc 7), .int (osc 8), .int (osc 9), .int (osc 10), .int (osc 11)]))], [(oaS, .inl (cI, 3, .inl go))], owB, owL] rfl ?_
        exact q_vret C B dX4_copyFrom_124 rfl rfl (fun t0 ht0 => ⟨rfl, _, rfl, _, ⟨_, fun q hq => hy q (by omega), rfl⟩, _, hw_8, _, hw_19, rfl⟩)
      · refine q_iload_n C dX4_copyFrom_33 34 0 rfl rfl ?_
        refine q_aload_n C dX4_copyFrom_34 35 2 rfl rfl ?_
        refine q_get (k := 4) (j := 0) (f := 2) C hinX4 f25 (fun _ h => h) (by decide) rfl dX4_copyFrom_35 38 rfl rfl rfl rfl ?_
        refine q_alen (k := 5) (j := 0) (v := nI 3) C dX4_copyFrom_38 39 rfl rfl rfl hcI rfl ?_
        refine q_icmp_ge C dX4_copyFrom_39 42 60 rfl (by decide) (nI_leI (by omega) (by omega)) (fun h39 => False.elim (by first | omega | simp_all)) (fun h39 => ?_)
        refine q_aload_n C dX4_copyFrom_42 43 1 rfl rfl ?_
        refine q_get (k := 0) (j := 0) (f := 2) C hinX4 f25 (fun _ h => h) (by decide) rfl dX4_copyFrom_43 46 rfl rfl rfl rfl ?_
        refine q_iload_n C dX4_copyFrom_46 47 0 rfl rfl ?_
        refine q_aload_n C dX4_copyFrom_47 48 2 rfl rfl ?_
        refine q_get (k := 4) (j := 0) (f := 2) C hinX4 f25 (fun _ h => h) (by decide) rfl dX4_copyFrom_48 51 rfl rfl rfl rfl ?_
        refine q_iload_n C dX4_copyFrom_51 52 0 rfl rfl ?_
        refine q_iald (k := 5) (j := 0) (v := osc i) C dX4_copyFrom_52 53 rfl rfl rfl hcI i rfl (by omega) (by decide) (hgo i (by omega)) ?_
        refine q_iast (k := 1) (j := 0) C dX4_copyFrom_53 54 rfl rfl rfl hcI i rfl (by omega) (by decide) [[(h0, .inr (3, [.ref aB, .ref aL, .ref aS, .int (sc 3), .int (sc 5), .int (sc 6), .int (sc 7), .int (sc 8), .int (sc 9), .int (sc 10), .int (sc 11)]))], [(aS, .inl (cI, 3, .inl (upd y i (osc i))))], w_8, w_19, [(h1, .inr (3, [.ref oaB, .ref oaL, .ref oaS, .int (osc 3), .int (osc 5), .int (osc 6), .int (osc 7), .int (osc 8), .int (osc 9), .int (osc 10), .int (osc 11)]))], [(oaS, .inl (cI, 3, .inl go))], owB, owL] rfl ?_
        refine q_iinc (v := nI (i + 1)) C dX4_copyFrom_54 57 0 rfl rfl (q_ninc1 (by omega)) [(2, .int (nI (i + 1))), (0, .ref h0), (1, .ref h1)] (by decide) rfl ?_
        refine q_goto C dX4_copyFrom_57 24 (by decide) ?_
        refine q_sub (L' := [(2, .int (nI (i + 1))), (0, .ref h0), (1, .ref h1)]) [0, 1, 2] rfl ?_
        exact ih_lp (i + 1) (upd y i (osc i)) (by omega) (by omega) (fun q hq => (Decidable.em (q = i)).elim (fun e => by subst e; rw [pk_us]) (fun e => by rw [pk_un e]; exact hy q (by omega)))
  refine q_sub (L' := [(2, .int (nI 0)), (0, .ref h0), (1, .ref h1)]) [0, 1, 2] rfl ?_
  exact lp _ 0 g (Nat.lt_succ_self _) (by omega) (fun q hq => absurd hq (Nat.not_lt_zero q))

set_option maxHeartbeats 4000000 in
set_option maxRecDepth 100000 in
theorem c_X4_returnLine (l : Launch) {D : va_G} {tys : List (ClassId × FieldType)} {Z : (Nat → Prop) → State → Heap → Prop} (hZ : q_St Z) {cI : ClassId} (hI : tys[0]? = some (cI, .int)) (hN : q_Ns Z) (h0 : Nat) (aB : Nat) (aL : Nat) (aS : Nat) (sc : Nat → Int32) (wO : va_W) (hO : k_isO cI h0 aB aL aS sc wO) (wA : va_W) (hA : k_isA cI aS sc wA) (bx : k_Bx) (at0 : Nat) (wB : va_W) (hB : k_isB cI aB bx at0 wB) (ln : List (Nat × Nat)) (wL : va_W) (hL : k_isL cI aL ln wL) (hwy : k_wy bx ln sc = 0) : q_Ct l D tys Z yX4_returnLine wsX4_returnLine ({ frames := 3, cells := 0, slots := 0, locals := 102 } : Room) 0 0 [.ref h0] [wO, wA, wB, wL] (fun v0 R0 _ => v0 = none ∧ ∃ wO', k_isO cI h0 aB aL aS (upd (upd sc 9 (sc 9 + nI 1)) 3 (-1)) wO' ∧ ∃ wA', k_isA cI aS (upd (upd sc 9 (sc 9 + nI 1)) 3 (-1)) wA' ∧ ∃ wB', k_isB cI aB (k_rb bx ln sc (ln).length) at0 wB' ∧ ∃ wL', k_isL cI aL (([] : List (Nat × Nat))) wL' ∧ R0 = [wO', wA', wB', wL']) := by
  have hcI := hI
  refine q_ct (cc := cX4_returnLine) (maxL := 2) (ret := none) (own := RX4) (by decide) rfl hZ (Nat.le_of_ble_eq_true rfl) rfl ?_
  intro p9 e9 R s9 m9 args below meth c9 A Q C B
  have hts := C.2.2.2.2.1
  have hinX4 : ∀ w ∈ u_ws RX4 TX4 11, w ∈ wsX4_returnLine := by decide +kernel
  have f21 := hts (.fieldLink RX4 21 "SortCases$State" "line" "LSortCases$Line;") (by decide +kernel)
  have hinX2 : ∀ w ∈ u_ws RX2 TX2 3, w ∈ wsX4_returnLine := by decide +kernel
  have f121 := q_nsb hN C (by decide +kernel : Cond.fieldLinkNest "SortCases$State" 121 "SortCases$Line" "length" "I" "SortCases" ∈ q_nest) rfl
  have f45 := hts (.fieldLink RX4 45 "SortCases$State" "linesReturned" "I") (by decide +kernel)
  have f29 := hts (.fieldLink RX4 29 "SortCases$State" "hand" "I") (by decide +kernel)
  have f12 := hts (.fieldLink RX4 12 "SortCases$State" "boxes" "LSortCases$Boxes;") (by decide +kernel)
  refine q_eqL (L' := [(0, .ref h0)]) rfl ?_
  obtain rfl := hO
  have hOo : k_isO cI h0 aB aL aS sc [(h0, .inr (3, [.ref aB, .ref aL, .ref aS, .int (sc 3), .int (sc 5), .int (sc 6), .int (sc 7), .int (sc 8), .int (sc 9), .int (sc 10), .int (sc 11)]))] := rfl
  obtain ⟨hlok, hs, hl, f1, f2, hrel, rfl⟩ := hL
  have hlen := hlok.1
  have hL : k_isL cI aL ln [(aL, .inr (2, [.ref hs, .ref hl, .int (nI ln.length)])), (hs, .inl (cI, 72, .inl f1)), (hl, .inl (cI, 72, .inl f2))] := ⟨hlok, hs, hl, f1, f2, hrel, rfl⟩
  refine q_aload_n C dX4_returnLine_0 1 0 rfl rfl ?_
  refine q_get (k := 0) (j := 0) (f := 1) C hinX4 f21 (fun _ h => h) (by decide) rfl dX4_returnLine_1 4 rfl rfl rfl rfl ?_
  refine q_getN (k := 3) (j := 0) (f := 2) C hinX2 f121 (fun _ h => h) (by decide) rfl dX4_returnLine_4 7 rfl rfl rfl rfl ?_
  refine q_iconst (v := nI 1) C dX4_returnLine_7 8 rfl (by decide) ?_
  refine q_isub (v := k_pl ln.length) C dX4_returnLine_8 9 rfl rfl ?_
  refine q_istore_n C dX4_returnLine_9 10 rfl [(1, .int (k_pl ln.length)), (0, .ref h0)] (by decide) rfl ?_
  have lp : ∀ (kk : Nat) (n : Nat) (wb : va_W), n < kk → ∀ (hn : n ≤ ln.length), ∀ (hwb : k_isB cI aB (k_rb bx ln sc (ln.length - n)) at0 wb), q_V p9 l e9 R s9 m9 args below meth c9 D A 2 Q 0 0 10 [(1, .int (k_pl n)), (0, .ref h0)] [] [[(h0, .inr (3, [.ref aB, .ref aL, .ref aS, .int (sc 3), .int (sc 5), .int (sc 6), .int (sc 7), .int (sc 8), .int (sc 9), .int (sc 10), .int (sc 11)]))], wA, wb, [(aL, .inr (2, [.ref hs, .ref hl, .int (nI ln.length)])), (hs, .inl (cI, 72, .inl f1)), (hl, .inl (cI, 72, .inl f2))]] := by
    intro kk
    induction kk with
    | zero => intro n wb hkk; exact absurd hkk (Nat.not_lt_zero _)
    | succ kk ih_lp =>
      intro n wb hkk hn hwb
      refine q_iload_n C dX4_returnLine_10 11 0 rfl rfl ?_
      refine q_if_lt (P := n = 0) C dX4_returnLine_11 14 40 rfl (by decide) (k_pl_lt (by omega)) (fun h11 => ?_) (fun h11 => ?_)
      · refine q_aload_n C dX4_returnLine_40 41 1 rfl rfl ?_
        refine q_get (k := 0) (j := 0) (f := 1) C hinX4 f21 (fun _ h => h) (by decide) rfl dX4_returnLine_41 44 rfl rfl rfl rfl ?_
        refine q_callV (k := 3) (ci := 2) (n := 0) (rest := []) (Rr := [[(h0, .inr (3, [.ref aB, .ref aL, .ref aS, .int (sc 3), .int (sc 5), .int (sc 6), .int (sc 7), .int (sc 8), .int (sc 9), .int (sc 10), .int (sc 11)]))], wA, wb]) C rfl (k_isL_recv hL) rfl (c_X2_clear l hZ hI aL ln ([(aL, .inr (2, [.ref hs, .ref hl, .int (nI ln.length)])), (hs, .inl (cI, 72, .inl f1)), (hl, .inl (cI, 72, .inl f2))]) hL) gX4_returnLine_X2_clear rfl rfl rfl (by decide +kernel) B.1 ⟨Nat.le_of_ble_eq_true rfl, Nat.le_of_ble_eq_true rfl⟩ rfl rfl (Nat.le_of_ble_eq_true rfl) dX4_returnLine_44 ⟨Nat.le_of_ble_eq_true rfl, Nat.le_of_ble_eq_true rfl⟩ [3] [0, 1, 2] (by decide : ([3] ++ ([0, 1, 2] : List Nat)).Perm (List.range 4)) rfl rfl 47 rfl (fun v0 R0 t0 ht0 hp0 => ?_)
        obtain ⟨rfl, w_44, hw_44, rfl⟩ := hp0
        refine q_eqs (st' := []) rfl ?_
        refine q_reord [1, 2, 3, 0] (by decide : ([1, 2, 3, 0] : List Nat).Perm (List.range 4)) (Rs' := [[(h0, .inr (3, [.ref aB, .ref aL, .ref aS, .int (sc 3), .int (sc 5), .int (sc 6), .int (sc 7), .int (sc 8), .int (sc 9), .int (sc 10), .int (sc 11)]))], wA, wb, w_44]) rfl rfl ?_
        refine q_aload_n C dX4_returnLine_47 48 1 rfl rfl ?_
        refine q_dup C dX4_returnLine_48 49 rfl rfl ?_
        refine q_get (k := 0) (j := 0) (f := 8) C hinX4 f45 (fun _ h => h) (by decide) rfl dX4_returnLine_49 52 rfl rfl rfl rfl ?_
        refine q_iconst (v := nI 1) C dX4_returnLine_52 53 rfl (by decide) ?_
        refine q_iadd (v := (sc 9) + (nI 1)) C dX4_returnLine_53 54 rfl rfl ?_
        refine q_put (k := 0) (j := 0) (f := 8) C hinX4 tyX4 tyX4_ok nmX4 f45 (fun _ h => h) (by decide) rfl rfl (tyX4_ok 8 (by decide)) rfl rfl dX4_returnLine_54 57 rfl rfl rfl (Nat.le_of_ble_eq_true rfl) [[(h0, .inr (3, [.ref aB, .ref aL, .ref aS, .int (sc 3), .int (sc 5), .int (sc 6), .int (sc 7), .int (sc 8), .int ((sc 9) + (nI 1)), .int (sc 10), .int (sc 11)]))], wA, wb, w_44] rfl ?_
        refine q_aload_n C dX4_returnLine_57 58 1 rfl rfl ?_
        refine q_iconst (v := -1) C dX4_returnLine_58 59 rfl (by decide) ?_
        refine q_put (k := 0) (j := 0) (f := 3) C hinX4 tyX4 tyX4_ok nmX4 f29 (fun _ h => h) (by decide) rfl rfl (tyX4_ok 3 (by decide)) rfl rfl dX4_returnLine_59 62 rfl rfl rfl (Nat.le_of_ble_eq_true rfl) [[(h0, .inr (3, [.ref aB, .ref aL, .ref aS, .int (-1), .int (sc 5), .int (sc 6), .int (sc 7), .int (sc 8), .int ((sc 9) + (nI 1)), .int (sc 10), .int (sc 11)]))], wA, wb, w_44] rfl ?_
        subst h11
        rw [Nat.sub_zero] at hwb
        exact q_vret C B dX4_returnLine_62 rfl rfl (fun t0 ht0 => ⟨rfl, _, rfl, _, k_isA_upd (k_isA_upd hA (by decide)) (by decide), _, hwb, _, hw_44, rfl⟩)
      · refine q_eqL (L' := [(1, .int (nI (n - 1))), (0, .ref h0)]) (by rw [k_pl_s (by omega)]) ?_
        refine q_aload_n C dX4_returnLine_14 15 1 rfl rfl ?_
        refine q_get (k := 0) (j := 0) (f := 0) C hinX4 f12 (fun _ h => h) (by decide) rfl dX4_returnLine_15 18 rfl rfl rfl rfl ?_
        refine q_aload_n C dX4_returnLine_18 19 1 rfl rfl ?_
        refine q_iload_n C dX4_returnLine_19 20 0 rfl rfl ?_
        refine q_callV (k := 0) (ci := 3) (n := 1) (rest := [.ref aB]) (Rr := [wb]) C rfl (k_isO_recv hOo) rfl (c_X4_boxBehind l hZ hI h0 aB aL aS sc ([(h0, .inr (3, [.ref aB, .ref aL, .ref aS, .int (sc 3), .int (sc 5), .int (sc 6), .int (sc 7), .int (sc 8), .int (sc 9), .int (sc 10), .int (sc 11)]))]) hOo wA hA ln ([(aL, .inr (2, [.ref hs, .ref hl, .int (nI ln.length)])), (hs, .inl (cI, 72, .inl f1)), (hl, .inl (cI, 72, .inl f2))]) hL (n - 1) (by omega)) gX4_returnLine_X4_boxBehind rfl rfl rfl (by decide +kernel) B.1 ⟨Nat.le_of_ble_eq_true rfl, Nat.le_of_ble_eq_true rfl⟩ rfl rfl (Nat.le_of_ble_eq_true rfl) dX4_returnLine_20 ⟨Nat.le_of_ble_eq_true rfl, Nat.le_of_ble_eq_true rfl⟩ [0, 1, 3] [2] (by decide : ([0, 1, 3] ++ ([2] : List Nat)).Perm (List.range 4)) rfl rfl 23 rfl (fun v0 R0 t0 ht0 hp0 => ?_)
        obtain ⟨rfl, rfl⟩ := hp0
        refine q_eqs (st' := [.int (nI (k_bb ln sc (n - 1))), .ref aB]) rfl ?_
        refine q_reord [0, 1, 3, 2] (by decide : ([0, 1, 3, 2] : List Nat).Perm (List.range 4)) (Rs' := [[(h0, .inr (3, [.ref aB, .ref aL, .ref aS, .int (sc 3), .int (sc 5), .int (sc 6), .int (sc 7), .int (sc 8), .int (sc 9), .int (sc 10), .int (sc 11)]))], wA, wb, [(aL, .inr (2, [.ref hs, .ref hl, .int (nI ln.length)])), (hs, .inl (cI, 72, .inl f1)), (hl, .inl (cI, 72, .inl f2))]]) rfl rfl ?_
        have ht20 : k_bb ln sc (n - 1) < 12 := k_bb_lt hL.1 (by omega)
        refine q_aload_n C dX4_returnLine_23 24 1 rfl rfl ?_
        refine q_get (k := 0) (j := 0) (f := 1) C hinX4 f21 (fun _ h => h) (by decide) rfl dX4_returnLine_24 27 rfl rfl rfl rfl ?_
        refine q_iload_n C dX4_returnLine_27 28 0 rfl rfl ?_
        refine q_callV (k := 3) (ci := 2) (n := 1) (rest := [.int (nI (k_bb ln sc (n - 1))), .ref aB]) (Rr := [[(h0, .inr (3, [.ref aB, .ref aL, .ref aS, .int (sc 3), .int (sc 5), .int (sc 6), .int (sc 7), .int (sc 8), .int (sc 9), .int (sc 10), .int (sc 11)]))], wA, wb]) C rfl (k_isL_recv hL) rfl (c_X2_sortAt l hZ hI aL ln ([(aL, .inr (2, [.ref hs, .ref hl, .int (nI ln.length)])), (hs, .inl (cI, 72, .inl f1)), (hl, .inl (cI, 72, .inl f2))]) hL (n - 1) (by omega)) gX4_returnLine_X2_sortAt rfl rfl rfl (by decide +kernel) B.1 ⟨Nat.le_of_ble_eq_true rfl, Nat.le_of_ble_eq_true rfl⟩ rfl rfl (Nat.le_of_ble_eq_true rfl) dX4_returnLine_28 ⟨Nat.le_of_ble_eq_true rfl, Nat.le_of_ble_eq_true rfl⟩ [3] [0, 1, 2] (by decide : ([3] ++ ([0, 1, 2] : List Nat)).Perm (List.range 4)) rfl rfl 31 rfl (fun v0 R0 t0 ht0 hp0 => ?_)
        obtain ⟨rfl, rfl⟩ := hp0
        refine q_eqs (st' := [.int (nI ((k_la ln (n - 1)).1)), .int (nI (k_bb ln sc (n - 1))), .ref aB]) rfl ?_
        refine q_reord [1, 2, 3, 0] (by decide : ([1, 2, 3, 0] : List Nat).Perm (List.range 4)) (Rs' := [[(h0, .inr (3, [.ref aB, .ref aL, .ref aS, .int (sc 3), .int (sc 5), .int (sc 6), .int (sc 7), .int (sc 8), .int (sc 9), .int (sc 10), .int (sc 11)]))], wA, wb, [(aL, .inr (2, [.ref hs, .ref hl, .int (nI ln.length)])), (hs, .inl (cI, 72, .inl f1)), (hl, .inl (cI, 72, .inl f2))]]) rfl rfl ?_
        have ht28 : (k_la ln (n - 1)).1 < 12 := (k_la_lt hL.1 (by omega)).1
        refine q_callV (k := 2) (ci := 0) (n := 2) (rest := []) (Rr := [[(h0, .inr (3, [.ref aB, .ref aL, .ref aS, .int (sc 3), .int (sc 5), .int (sc 6), .int (sc 7), .int (sc 8), .int (sc 9), .int (sc 10), .int (sc 11)]))], wA, [(aL, .inr (2, [.ref hs, .ref hl, .int (nI ln.length)])), (hs, .inl (cI, 72, .inl f1)), (hl, .inl (cI, 72, .inl f2))]]) C rfl (k_isB_recv hwb) rfl (c_X0_put l hZ hI aB ((k_rb bx ln sc (ln.length - n))) at0 wb hwb (k_bb ln sc (n - 1)) ((k_la ln (n - 1)).1) (by omega) (by have hrm := k_rb_room (j := ln.length - n) hwy hlok (by omega); rw [show ln.length - 1 - (ln.length - n) = n - 1 by omega] at hrm; exact hrm) (by omega)) gX4_returnLine_X0_put rfl rfl rfl (by decide +kernel) B.1 ⟨Nat.le_of_ble_eq_true rfl, Nat.le_of_ble_eq_true rfl⟩ rfl rfl (Nat.le_of_ble_eq_true rfl) dX4_returnLine_31 ⟨Nat.le_of_ble_eq_true rfl, Nat.le_of_ble_eq_true rfl⟩ [2] [0, 1, 3] (by decide : ([2] ++ ([0, 1, 3] : List Nat)).Perm (List.range 4)) rfl rfl 34 rfl (fun v0 R0 t0 ht0 hp0 => ?_)
        obtain ⟨rfl, w_31, hw_31, rfl⟩ := hp0
        refine q_eqs (st' := []) rfl ?_
        refine q_reord [1, 2, 0, 3] (by decide : ([1, 2, 0, 3] : List Nat).Perm (List.range 4)) (Rs' := [[(h0, .inr (3, [.ref aB, .ref aL, .ref aS, .int (sc 3), .int (sc 5), .int (sc 6), .int (sc 7), .int (sc 8), .int (sc 9), .int (sc 10), .int (sc 11)]))], wA, w_31, [(aL, .inr (2, [.ref hs, .ref hl, .int (nI ln.length)])), (hs, .inl (cI, 72, .inl f1)), (hl, .inl (cI, 72, .inl f2))]]) rfl rfl ?_
        refine q_iinc (v := k_pl (n - 1)) C dX4_returnLine_34 37 0 rfl rfl (k_pl_dec _) [(1, .int (k_pl (n - 1))), (0, .ref h0)] (by decide) rfl ?_
        refine q_goto C dX4_returnLine_37 10 (by decide) ?_
        refine q_sub (L' := [(1, .int (k_pl (n - 1))), (0, .ref h0)]) [0, 1] rfl ?_
        exact ih_lp (n - 1) w_31 (by omega) (by omega) (by rw [show ln.length - (n - 1) = ln.length - n + 1 by omega]; show k_isB cI aB (k_put (k_rb bx ln sc (ln.length - n)) (k_bb ln sc (ln.length - 1 - (ln.length - n))) (k_la ln (ln.length - 1 - (ln.length - n))).1) at0 _; rw [show ln.length - 1 - (ln.length - n) = n - 1 by omega]; exact hw_31)
  refine q_sub (L' := [(1, .int (k_pl ln.length)), (0, .ref h0)]) [0, 1] rfl ?_
  exact lp _ ln.length wB (Nat.lt_succ_self _) (by omega) (by rw [Nat.sub_self]; exact hB)

