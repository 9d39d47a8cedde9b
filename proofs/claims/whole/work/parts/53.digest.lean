set_option maxHeartbeats 400000 in
set_option maxRecDepth 100000 in
theorem c_Jxe99ae_isNaN_b9ae7 (l : Launch) {D : va_G} {tys : List (ClassId × FieldType)} {Z : (Nat → Prop) → State → Heap → Prop} (hZ : q_St Z) {cI : ClassId} (hI : tys[0]? = some (cI, .int)) (z : UInt64) (hnn : k_nan0 z) : q_Ct l D tys Z yJxe99ae_isNaN_b9ae7 wsJxe99ae_isNaN_b9ae7 ({ frames := 1, cells := 0, slots := 0, locals := 42 } : Room) 0 0 [.double z] [] (fun v0 R0 _ => v0 = some (.int (nI 0)) ∧ R0 = []) := by
  have hcI := hI
  refine q_ct (cc := cJxe99ae_isNaN_b9ae7) (maxL := 2) (ret := (some .boolean)) (own := RJxe99ae) (by decide) rfl hZ (Nat.le_of_ble_eq_true rfl) rfl ?_
  intro p9 e9 R s9 m9 args below meth c9 A Q C B
  have hts := C.2.2.2.2.1
  refine q_eqL (L' := [(0, .double z)]) rfl ?_
  refine q_dload_n C dJxe99ae_isNaN_b9ae7_0 1 0 rfl rfl ?_
  refine q_dload_n C dJxe99ae_isNaN_b9ae7_1 2 0 rfl rfl ?_
  refine q_dcmp C dJxe99ae_isNaN_b9ae7_2 3 rfl ?_
  refine q_if_eq C dJxe99ae_isNaN_b9ae7_3 6 10 rfl (by decide) Iff.rfl (fun h3 => ?_) (fun h3 => False.elim (h3 hnn))
  refine q_iconst (v := nI 0) C dJxe99ae_isNaN_b9ae7_10 11 rfl (by decide) ?_
  exact q_zret C B (by decide) dJxe99ae_isNaN_b9ae7_11 rfl rfl (fun t0 ht0 => ⟨rfl, rfl⟩)

set_option maxHeartbeats 400000 in
set_option maxRecDepth 100000 in
theorem c_Jxe99ae_doubleToLongBits_ccdee (l : Launch) {D : va_G} {tys : List (ClassId × FieldType)} {Z : (Nat → Prop) → State → Heap → Prop} (hZ : q_St Z) {cI : ClassId} (hI : tys[0]? = some (cI, .int)) (z : UInt64) (hnn : k_nan0 z) : q_Ct l D tys Z yJxe99ae_doubleToLongBits_ccdee wsJxe99ae_doubleToLongBits_ccdee ({ frames := 2, cells := 0, slots := 0, locals := 72 } : Room) 0 0 [.double z] [] (fun v0 R0 _ => v0 = some (.long ((z).toInt64)) ∧ R0 = []) := by
  have hcI := hI
  refine q_ct (cc := cJxe99ae_doubleToLongBits_ccdee) (maxL := 2) (ret := (some .long)) (own := RJxe99ae) (by decide) rfl hZ (Nat.le_of_ble_eq_true rfl) rfl ?_
  intro p9 e9 R s9 m9 args below meth c9 A Q C B
  have hts := C.2.2.2.2.1
  have dr0 := hts (.methodLink RJxe99ae 134 ⟨"java/lang/Double", "doubleToRawLongBits", "(D)J"⟩) (by decide +kernel)
  have dr1 := hts (.native ⟨"java/lang/Double", "doubleToRawLongBits", "(D)J"⟩) (by decide +kernel)
  have dr2 := hts (.static ⟨"java/lang/Double", "doubleToRawLongBits", "(D)J"⟩) (by decide +kernel)
  have dr3 := hts (.initialized "java/lang/Double") (by decide +kernel)
  refine q_eqL (L' := [(0, .double z)]) rfl ?_
  refine q_dload_n C dJxe99ae_doubleToLongBits_ccdee_0 1 0 rfl rfl ?_
  refine q_callSX (n := 1) (rest := []) (Rr := []) C (c_Jxe99ae_isNaN_b9ae7 l hZ hI z (by omega)) gJxe99ae_doubleToLongBits_ccdee_Jxe99ae_isNaN_b9ae7 rfl rfl rfl (by decide +kernel) B.1 ⟨Nat.le_of_ble_eq_true rfl, Nat.le_of_ble_eq_true rfl⟩ rfl rfl (Nat.le_of_ble_eq_true rfl) dJxe99ae_doubleToLongBits_ccdee_1 ⟨(Nat.le_of_ble_eq_true rfl), (Nat.le_of_ble_eq_true rfl)⟩ [] [] (by decide : ([] ++ ([] : List Nat)).Perm (List.range 0)) rfl rfl 4 rfl (fun v0 R0 t0 ht0 hp0 => ?_)
  obtain ⟨rfl, rfl⟩ := hp0
  refine q_eqs (st' := [.int (nI 0)]) rfl ?_
  refine q_eqR (Rs' := []) rfl ?_
  refine q_if_ne C dJxe99ae_doubleToLongBits_ccdee_4 7 12 rfl (by decide) (q_eq0 (by omega)) (fun h4 => False.elim (by first | omega | simp_all)) (fun h4 => ?_)
  refine q_dload_n C dJxe99ae_doubleToLongBits_ccdee_7 8 0 rfl rfl ?_
  refine q_d2raw C dr0 dr1 dr2 dr3 B.1 (Nat.le_of_ble_eq_true rfl) (Nat.le_of_ble_eq_true rfl) dJxe99ae_doubleToLongBits_ccdee_8 11 rfl ?_
  exact q_lret C B dJxe99ae_doubleToLongBits_ccdee_11 rfl rfl (fun t0 ht0 => ⟨rfl, rfl⟩)

set_option maxHeartbeats 400000 in
set_option maxRecDepth 100000 in
theorem c_X6_digest (l : Launch) {D : va_G} {tys : List (ClassId × FieldType)} {Z : (Nat → Prop) → State → Heap → Prop} (hZ : q_St Z) {cI : ClassId} (hI : tys[0]? = some (cI, .int)) (hN : q_Ns Z) (h0 : Nat) (aO : Nat) (aY : Nat) (aN : Nat) (hsn : Int32) (aT : Nat) (aK : Nat) (wX : va_W) (hX : k_isX cI h0 aO aY aN hsn aT aK wX) (aB : Nat) (aL : Nat) (aS : Nat) (sc : Nat → Int32) (wO : va_W) (hO : k_isO cI aO aB aL aS sc wO) (wA : va_W) (hA : k_isA cI aS sc wA) (bx : k_Bx) (at0 : Nat) (wB : va_W) (hB : k_isB cI aB bx at0 wB) (ln : List (Nat × Nat)) (wL : va_W) (hL : k_isL cI aL ln wL) (tx : List Nat) (wT : va_W) (hT : k_isT cI aT tx wT) (aG : Nat) (nx : Nat) (sz : Nat) (wY : va_W) (hY : k_isY cI aY aG nx sz wY) (kbx : k_Bx) (kat0 : Nat) (kw : va_W) (kh : k_isB cI aK kbx kat0 kw) (hty : k_ty bx ≤ 72) (hcs : ∀ x, x < 12 → k_cn bx x x + k_cl ln x ≤ 6) (hws : k_ws bx ln = k_wr bx) : q_Ct l D tys Z yX6_digest wsX6_digest ({ frames := 6, cells := 0, slots := 0, locals := 192 } : Room) 0 0 [.ref h0] [wX, wO, wA, wB, wL, wT, wY, kw] (fun v0 R0 _ => v0 = some (.long (k_dig bx at0 ln sc sz tx)) ∧ ∃ kw', k_isB cI aK ((k_bs bx at0 (-1) (k_T bx at0)).1) ((k_bs bx at0 (-1) (k_T bx at0)).2) kw' ∧ R0 = [wX, wO, wA, wB, wL, wT, wY, kw']) := by
  have hcI := hI
  refine q_ct (cc := cX6_digest) (maxL := 4) (ret := (some .long)) (own := RX6) (by decide) rfl hZ (Nat.le_of_ble_eq_true rfl) rfl ?_
  intro p9 e9 R s9 m9 args below meth c9 A Q C B
  have hts := C.2.2.2.2.1
  have cst225 := hts (.constantLong RX6 225 3863) (by decide +kernel)
  have hinX6 : ∀ w ∈ u_ws RX6 TX6 6, w ∈ wsX6_digest := by decide +kernel
  have f12 := hts (.fieldLink RX6 12 "SortCases" "state" "LSortCases$State;") (by decide +kernel)
  have hinX4 : ∀ w ∈ u_ws RX4 TX4 11, w ∈ wsX6_digest := by decide +kernel
  have f167 := q_nsb hN C (by decide +kernel : Cond.fieldLinkNest "SortCases" 167 "SortCases$State" "stopPart" "I" "SortCases" ∈ q_nest) rfl
  have f170 := q_nsb hN C (by decide +kernel : Cond.fieldLinkNest "SortCases" 170 "SortCases$State" "stopReason" "I" "SortCases" ∈ q_nest) rfl
  have f33 := hts (.fieldLink RX6 33 "SortCases" "text" "LSortCases$Text;") (by decide +kernel)
  have hinX5 : ∀ w ∈ u_ws RX5 TX5 2, w ∈ wsX6_digest := by decide +kernel
  have f140 := q_nsb hN C (by decide +kernel : Cond.fieldLinkNest "SortCases" 140 "SortCases$Text" "length" "I" "SortCases" ∈ q_nest) rfl
  refine q_eqL (L' := [(0, .ref h0)]) rfl ?_
  have hll := hL.1.1
  have htl := hT.1.1
  refine q_ldc2 C cst225 dX6_digest_0 3 rfl ?_
  refine q_lstore_n C dX6_digest_3 4 rfl [(1, .long 3863), (0, .ref h0)] (by decide) rfl ?_
  refine q_iconst (v := nI 0) C dX6_digest_4 5 rfl (by decide) ?_
  refine q_istore_n C dX6_digest_5 6 rfl [(3, .int (nI 0)), (1, .long 3863), (0, .ref h0)] (by decide) rfl ?_
  have lp : ∀ (kk : Nat) (i : Nat) (ui : Int64), 18 - i < kk → ∀ (hii : i ≤ 18), ∀ (hui : ui = k_hf (k_tc bx at0 ln sc sz) 3863 i), q_V p9 l e9 R s9 m9 args below meth c9 D A 4 Q 0 0 6 [(3, .int (nI i)), (1, .long ui), (0, .ref h0)] [] [wX, wO, wA, wB, wL, wT, wY, kw] := by
    intro kk
    induction kk with
    | zero => intro i ui hkk; exact absurd hkk (Nat.not_lt_zero _)
    | succ kk ih_lp =>
      intro i ui hkk hii hui
      refine q_iload_n C dX6_digest_6 7 0 rfl rfl ?_
      refine q_bipush (v := nI 18) C dX6_digest_7 9 rfl (by decide) ?_
      refine q_icmp_ge C dX6_digest_9 12 29 rfl (by decide) (nI_leI (by omega) (by omega)) (fun h9 => ?_) (fun h9 => ?_)
      · refine q_iconst (v := nI 0) C dX6_digest_29 30 rfl (by decide) ?_
        refine q_istore_n C dX6_digest_30 31 rfl [(3, .int (nI 0)), (1, .long ui), (0, .ref h0)] (by decide) rfl ?_
        have lp2 : ∀ (kk : Nat) (b : Nat) (ub : Int64), 12 - b < kk → ∀ (hib : b ≤ 12), ∀ (hub : ub = k_hbs bx at0 ln sc (k_hf (k_tc bx at0 ln sc sz) 3863 18) b), q_V p9 l e9 R s9 m9 args below meth c9 D A 4 Q 0 0 31 [(3, .int (nI b)), (1, .long ub), (0, .ref h0)] [] [wX, wO, wA, wB, wL, wT, wY, kw] := by
          intro kk
          induction kk with
          | zero => intro b ub hkk; exact absurd hkk (Nat.not_lt_zero _)
          | succ kk ih_lp2 =>
            intro b ub hkk hib hub
            refine q_iload_n C dX6_digest_31 32 0 rfl rfl ?_
            refine q_bipush (v := nI 12) C dX6_digest_32 34 rfl (by decide) ?_
            refine q_icmp_ge C dX6_digest_34 37 50 rfl (by decide) (nI_leI (by omega) (by omega)) (fun h34 => ?_) (fun h34 => ?_)
            · refine q_aload_n C dX6_digest_50 51 2 rfl rfl ?_
              refine q_lload_n C dX6_digest_51 52 1 rfl rfl ?_
              refine q_callV (k := 0) (ci := 5) (n := 1) (rest := []) (Rr := [wT, wY, kw]) C rfl (k_isX_recv hX) rfl (c_X6_mixedWithLine l hZ hI hN h0 aO aY aN hsn aT aK wX hX aB aL aS sc wO hO wA hA bx at0 wB hB ln wL hL ub) gX6_digest_X6_mixedWithLine rfl rfl rfl (by decide +kernel) B.1 ⟨Nat.le_of_ble_eq_true rfl, Nat.le_of_ble_eq_true rfl⟩ rfl rfl (Nat.le_of_ble_eq_true rfl) dX6_digest_52 ⟨(Nat.le_of_ble_eq_true rfl), (Nat.le_of_ble_eq_true rfl)⟩ [0, 1, 2, 3, 4] [5, 6, 7] (by decide : ([0, 1, 2, 3, 4] ++ ([5, 6, 7] : List Nat)).Perm (List.range 8)) rfl rfl 55 rfl (fun v0 R0 t0 ht0 hp0 => ?_)
              obtain ⟨rfl, rfl⟩ := hp0
              refine q_eqs (st' := [.long (k_hl bx ln sc ub)]) rfl ?_
              refine q_eqR (Rs' := [wX, wO, wA, wB, wL, wT, wY, kw]) rfl ?_
              refine q_lstore_n C dX6_digest_55 56 rfl [(1, .long (k_hl bx ln sc ub)), (3, .int (nI b)), (0, .ref h0)] (by decide) rfl ?_
              obtain ⟨u3, hu3⟩ : ∃ z, z = k_hl bx ln sc ub := ⟨_, rfl⟩
              refine q_eqL (L' := [(1, .long u3), (3, .int (nI b)), (0, .ref h0)]) (by rw [hu3]) ?_
              refine q_lload_n C dX6_digest_56 57 0 rfl rfl ?_
              refine q_aload_n C dX6_digest_57 58 2 rfl rfl ?_
              obtain rfl := hX
              have hXox1 : k_isX cI h0 aO aY aN hsn aT aK [(h0, .inr (5, [.ref aO, .ref aY, .ref aN, .int hsn, .ref aT, .ref aK]))] := rfl
              refine q_get (k := 0) (j := 0) (f := 0) C hinX6 f12 (fun _ h => h) (by decide) rfl dX6_digest_58 61 rfl rfl rfl rfl ?_
              obtain rfl := hO
              have hOox2 : k_isO cI aO aB aL aS sc [(aO, .inr (3, [.ref aB, .ref aL, .ref aS, .int (sc 3), .int (sc 5), .int (sc 6), .int (sc 7), .int (sc 8), .int (sc 9), .int (sc 10), .int (sc 11)]))] := rfl
              refine q_getN (k := 1) (j := 0) (f := 9) C hinX4 f167 (fun _ h => h) (by decide) rfl dX6_digest_61 64 rfl rfl rfl rfl ?_
              refine q_i2l (v := ((sc 10) : Int32).toInt64) C dX6_digest_64 65 rfl rfl ?_
              refine q_callS (n := 2) (rest := []) (Rr := [[(h0, .inr (5, [.ref aO, .ref aY, .ref aN, .int hsn, .ref aT, .ref aK]))], [(aO, .inr (3, [.ref aB, .ref aL, .ref aS, .int (sc 3), .int (sc 5), .int (sc 6), .int (sc 7), .int (sc 8), .int (sc 9), .int (sc 10), .int (sc 11)]))], wA, wB, wL, wT, wY, kw]) C (c_X6_mixed l hZ hI u3 (((sc 10) : Int32).toInt64)) gX6_digest_X6_mixed rfl rfl rfl (by decide +kernel) B.1 ⟨Nat.le_of_ble_eq_true rfl, Nat.le_of_ble_eq_true rfl⟩ rfl rfl (Nat.le_of_ble_eq_true rfl) dX6_digest_65 ⟨(Nat.le_of_ble_eq_true rfl), (Nat.le_of_ble_eq_true rfl)⟩ [] [0, 1, 2, 3, 4, 5, 6, 7] (by decide : ([] ++ ([0, 1, 2, 3, 4, 5, 6, 7] : List Nat)).Perm (List.range 8)) rfl rfl 68 rfl (fun v0 R0 t0 ht0 hp0 => ?_)
              obtain ⟨rfl, rfl⟩ := hp0
              refine q_eqs (st' := [.long (31 * u3 + (((sc 10) : Int32).toInt64))]) rfl ?_
              refine q_eqR (Rs' := [[(h0, .inr (5, [.ref aO, .ref aY, .ref aN, .int hsn, .ref aT, .ref aK]))], [(aO, .inr (3, [.ref aB, .ref aL, .ref aS, .int (sc 3), .int (sc 5), .int (sc 6), .int (sc 7), .int (sc 8), .int (sc 9), .int (sc 10), .int (sc 11)]))], wA, wB, wL, wT, wY, kw]) rfl ?_
              refine q_lstore_n C dX6_digest_68 69 rfl [(1, .long (31 * u3 + (((sc 10) : Int32).toInt64))), (3, .int (nI b)), (0, .ref h0)] (by decide) rfl ?_
              refine q_lload_n C dX6_digest_69 70 0 rfl rfl ?_
              refine q_aload_n C dX6_digest_70 71 2 rfl rfl ?_
              refine q_get (k := 0) (j := 0) (f := 0) C hinX6 f12 (fun _ h => h) (by decide) rfl dX6_digest_71 74 rfl rfl rfl rfl ?_
              refine q_getN (k := 1) (j := 0) (f := 10) C hinX4 f170 (fun _ h => h) (by decide) rfl dX6_digest_74 77 rfl rfl rfl rfl ?_
              refine q_i2l (v := ((sc 11) : Int32).toInt64) C dX6_digest_77 78 rfl rfl ?_
              refine q_callS (n := 2) (rest := []) (Rr := [[(h0, .inr (5, [.ref aO, .ref aY, .ref aN, .int hsn, .ref aT, .ref aK]))], [(aO, .inr (3, [.ref aB, .ref aL, .ref aS, .int (sc 3), .int (sc 5), .int (sc 6), .int (sc 7), .int (sc 8), .int (sc 9), .int (sc 10), .int (sc 11)]))], wA, wB, wL, wT, wY, kw]) C (c_X6_mixed l hZ hI (31 * u3 + (((sc 10) : Int32).toInt64)) (((sc 11) : Int32).toInt64)) gX6_digest_X6_mixed rfl rfl rfl (by decide +kernel) B.1 ⟨Nat.le_of_ble_eq_true rfl, Nat.le_of_ble_eq_true rfl⟩ rfl rfl (Nat.le_of_ble_eq_true rfl) dX6_digest_78 ⟨(Nat.le_of_ble_eq_true rfl), (Nat.le_of_ble_eq_true rfl)⟩ [] [0, 1, 2, 3, 4, 5, 6, 7] (by decide : ([] ++ ([0, 1, 2, 3, 4, 5, 6, 7] : List Nat)).Perm (List.range 8)) rfl rfl 81 rfl (fun v0 R0 t0 ht0 hp0 => ?_)
              obtain ⟨rfl, rfl⟩ := hp0
              refine q_eqs (st' := [.long (31 * (31 * u3 + (((sc 10) : Int32).toInt64)) + (((sc 11) : Int32).toInt64))]) rfl ?_
              refine q_eqR (Rs' := [[(h0, .inr (5, [.ref aO, .ref aY, .ref aN, .int hsn, .ref aT, .ref aK]))], [(aO, .inr (3, [.ref aB, .ref aL, .ref aS, .int (sc 3), .int (sc 5), .int (sc 6), .int (sc 7), .int (sc 8), .int (sc 9), .int (sc 10), .int (sc 11)]))], wA, wB, wL, wT, wY, kw]) rfl ?_
              refine q_lstore_n C dX6_digest_81 82 rfl [(1, .long (31 * (31 * u3 + (((sc 10) : Int32).toInt64)) + (((sc 11) : Int32).toInt64))), (3, .int (nI b)), (0, .ref h0)] (by decide) rfl ?_
              refine q_lload_n C dX6_digest_82 83 0 rfl rfl ?_
              refine q_aload_n C dX6_digest_83 84 2 rfl rfl ?_
              refine q_callV (k := 0) (ci := 5) (n := 0) (rest := [.long (31 * (31 * u3 + (((sc 10) : Int32).toInt64)) + (((sc 11) : Int32).toInt64))]) (Rr := [wL, wT, wY]) C rfl (k_isX_recv hXox1) rfl (c_X6_sortedIn l hZ hI hN h0 aO aY aN hsn aT aK ([(h0, .inr (5, [.ref aO, .ref aY, .ref aN, .int hsn, .ref aT, .ref aK]))]) hXox1 aB aL aS sc ([(aO, .inr (3, [.ref aB, .ref aL, .ref aS, .int (sc 3), .int (sc 5), .int (sc 6), .int (sc 7), .int (sc 8), .int (sc 9), .int (sc 10), .int (sc 11)]))]) hOox2 wA hA bx at0 wB hB kbx kat0 kw kh hty) gX6_digest_X6_sortedIn rfl rfl rfl (by decide +kernel) B.1 ⟨Nat.le_of_ble_eq_true rfl, Nat.le_of_ble_eq_true rfl⟩ rfl rfl (Nat.le_of_ble_eq_true rfl) dX6_digest_84 ⟨(Nat.le_of_ble_eq_true rfl), (Nat.le_of_ble_eq_true rfl)⟩ [0, 1, 2, 3, 7] [4, 5, 6] (by decide : ([0, 1, 2, 3, 7] ++ ([4, 5, 6] : List Nat)).Perm (List.range 8)) rfl rfl 87 rfl (fun v0 R0 t0 ht0 hp0 => ?_)
              obtain ⟨rfl, wk_84, hwk_84, rfl⟩ := hp0
              refine q_eqs (st' := [.int (nI (k_lm bx at0 (-1) (k_T bx at0))), .long (31 * (31 * u3 + (((sc 10) : Int32).toInt64)) + (((sc 11) : Int32).toInt64))]) rfl ?_
              refine q_reord [0, 1, 2, 3, 5, 6, 7, 4] (by decide : ([0, 1, 2, 3, 5, 6, 7, 4] : List Nat).Perm (List.range 8)) (Rs' := [[(h0, .inr (5, [.ref aO, .ref aY, .ref aN, .int hsn, .ref aT, .ref aK]))], [(aO, .inr (3, [.ref aB, .ref aL, .ref aS, .int (sc 3), .int (sc 5), .int (sc 6), .int (sc 7), .int (sc 8), .int (sc 9), .int (sc 10), .int (sc 11)]))], wA, wB, wL, wT, wY, wk_84]) rfl rfl ?_
              refine q_i2l (v := ((nI (k_lm bx at0 (-1) (k_T bx at0))) : Int32).toInt64) C dX6_digest_87 88 rfl rfl ?_
              refine q_callS (n := 2) (rest := []) (Rr := [[(h0, .inr (5, [.ref aO, .ref aY, .ref aN, .int hsn, .ref aT, .ref aK]))], [(aO, .inr (3, [.ref aB, .ref aL, .ref aS, .int (sc 3), .int (sc 5), .int (sc 6), .int (sc 7), .int (sc 8), .int (sc 9), .int (sc 10), .int (sc 11)]))], wA, wB, wL, wT, wY, wk_84]) C (c_X6_mixed l hZ hI (31 * (31 * u3 + (((sc 10) : Int32).toInt64)) + (((sc 11) : Int32).toInt64)) (((nI (k_lm bx at0 (-1) (k_T bx at0))) : Int32).toInt64)) gX6_digest_X6_mixed rfl rfl rfl (by decide +kernel) B.1 ⟨Nat.le_of_ble_eq_true rfl, Nat.le_of_ble_eq_true rfl⟩ rfl rfl (Nat.le_of_ble_eq_true rfl) dX6_digest_88 ⟨(Nat.le_of_ble_eq_true rfl), (Nat.le_of_ble_eq_true rfl)⟩ [] [0, 1, 2, 3, 4, 5, 6, 7] (by decide : ([] ++ ([0, 1, 2, 3, 4, 5, 6, 7] : List Nat)).Perm (List.range 8)) rfl rfl 91 rfl (fun v0 R0 t0 ht0 hp0 => ?_)
              obtain ⟨rfl, rfl⟩ := hp0
              refine q_eqs (st' := [.long (31 * (31 * (31 * u3 + (((sc 10) : Int32).toInt64)) + (((sc 11) : Int32).toInt64)) + (((nI (k_lm bx at0 (-1) (k_T bx at0))) : Int32).toInt64))]) rfl ?_
              refine q_eqR (Rs' := [[(h0, .inr (5, [.ref aO, .ref aY, .ref aN, .int hsn, .ref aT, .ref aK]))], [(aO, .inr (3, [.ref aB, .ref aL, .ref aS, .int (sc 3), .int (sc 5), .int (sc 6), .int (sc 7), .int (sc 8), .int (sc 9), .int (sc 10), .int (sc 11)]))], wA, wB, wL, wT, wY, wk_84]) rfl ?_
              refine q_lstore_n C dX6_digest_91 92 rfl [(1, .long (31 * (31 * (31 * u3 + (((sc 10) : Int32).toInt64)) + (((sc 11) : Int32).toInt64)) + (((nI (k_lm bx at0 (-1) (k_T bx at0))) : Int32).toInt64))), (3, .int (nI b)), (0, .ref h0)] (by decide) rfl ?_
              refine q_lload_n C dX6_digest_92 93 0 rfl rfl ?_
              refine q_aload_n C dX6_digest_93 94 2 rfl rfl ?_
              refine q_callV (k := 0) (ci := 5) (n := 0) (rest := [.long (31 * (31 * (31 * u3 + (((sc 10) : Int32).toInt64)) + (((sc 11) : Int32).toInt64)) + (((nI (k_lm bx at0 (-1) (k_T bx at0))) : Int32).toInt64))]) (Rr := [wL, wT, wY]) C rfl (k_isX_recv hXox1) rfl (c_X6_wrongThen l hZ hI hN h0 aO aY aN hsn aT aK ([(h0, .inr (5, [.ref aO, .ref aY, .ref aN, .int hsn, .ref aT, .ref aK]))]) hXox1 aB aL aS sc ([(aO, .inr (3, [.ref aB, .ref aL, .ref aS, .int (sc 3), .int (sc 5), .int (sc 6), .int (sc 7), .int (sc 8), .int (sc 9), .int (sc 10), .int (sc 11)]))]) hOox2 wA hA bx at0 wB hB ((k_bs bx at0 (-1) (k_T bx at0)).1) ((k_bs bx at0 (-1) (k_T bx at0)).2) wk_84 hwk_84 hty) gX6_digest_X6_wrongThen rfl rfl rfl (by decide +kernel) B.1 ⟨Nat.le_of_ble_eq_true rfl, Nat.le_of_ble_eq_true rfl⟩ rfl rfl (Nat.le_of_ble_eq_true rfl) dX6_digest_94 ⟨(Nat.le_of_ble_eq_true rfl), (Nat.le_of_ble_eq_true rfl)⟩ [0, 1, 2, 3, 7] [4, 5, 6] (by decide : ([0, 1, 2, 3, 7] ++ ([4, 5, 6] : List Nat)).Perm (List.range 8)) rfl rfl 97 rfl (fun v0 R0 t0 ht0 hp0 => ?_)
              obtain ⟨rfl, wk_94, hwk_94, rfl⟩ := hp0
              refine q_eqs (st' := [.int (nI (k_wr (k_bs bx at0 (-1) (k_T bx at0)).1)), .long (31 * (31 * (31 * u3 + (((sc 10) : Int32).toInt64)) + (((sc 11) : Int32).toInt64)) + (((nI (k_lm bx at0 (-1) (k_T bx at0))) : Int32).toInt64))]) rfl ?_
              refine q_reord [0, 1, 2, 3, 5, 6, 7, 4] (by decide : ([0, 1, 2, 3, 5, 6, 7, 4] : List Nat).Perm (List.range 8)) (Rs' := [[(h0, .inr (5, [.ref aO, .ref aY, .ref aN, .int hsn, .ref aT, .ref aK]))], [(aO, .inr (3, [.ref aB, .ref aL, .ref aS, .int (sc 3), .int (sc 5), .int (sc 6), .int (sc 7), .int (sc 8), .int (sc 9), .int (sc 10), .int (sc 11)]))], wA, wB, wL, wT, wY, wk_94]) rfl rfl ?_
              refine q_i2l (v := ((nI (k_wr (k_bs bx at0 (-1) (k_T bx at0)).1)) : Int32).toInt64) C dX6_digest_97 98 rfl rfl ?_
              refine q_callS (n := 2) (rest := []) (Rr := [[(h0, .inr (5, [.ref aO, .ref aY, .ref aN, .int hsn, .ref aT, .ref aK]))], [(aO, .inr (3, [.ref aB, .ref aL, .ref aS, .int (sc 3), .int (sc 5), .int (sc 6), .int (sc 7), .int (sc 8), .int (sc 9), .int (sc 10), .int (sc 11)]))], wA, wB, wL, wT, wY, wk_94]) C (c_X6_mixed l hZ hI (31 * (31 * (31 * u3 + (((sc 10) : Int32).toInt64)) + (((sc 11) : Int32).toInt64)) + (((nI (k_lm bx at0 (-1) (k_T bx at0))) : Int32).toInt64)) (((nI (k_wr (k_bs bx at0 (-1) (k_T bx at0)).1)) : Int32).toInt64)) gX6_digest_X6_mixed rfl rfl rfl (by decide +kernel) B.1 ⟨Nat.le_of_ble_eq_true rfl, Nat.le_of_ble_eq_true rfl⟩ rfl rfl (Nat.le_of_ble_eq_true rfl) dX6_digest_98 ⟨(Nat.le_of_ble_eq_true rfl), (Nat.le_of_ble_eq_true rfl)⟩ [] [0, 1, 2, 3, 4, 5, 6, 7] (by decide : ([] ++ ([0, 1, 2, 3, 4, 5, 6, 7] : List Nat)).Perm (List.range 8)) rfl rfl 101 rfl (fun v0 R0 t0 ht0 hp0 => ?_)
              obtain ⟨rfl, rfl⟩ := hp0
              refine q_eqs (st' := [.long (31 * (31 * (31 * (31 * u3 + (((sc 10) : Int32).toInt64)) + (((sc 11) : Int32).toInt64)) + (((nI (k_lm bx at0 (-1) (k_T bx at0))) : Int32).toInt64)) + (((nI (k_wr (k_bs bx at0 (-1) (k_T bx at0)).1)) : Int32).toInt64))]) rfl ?_
              refine q_eqR (Rs' := [[(h0, .inr (5, [.ref aO, .ref aY, .ref aN, .int hsn, .ref aT, .ref aK]))], [(aO, .inr (3, [.ref aB, .ref aL, .ref aS, .int (sc 3), .int (sc 5), .int (sc 6), .int (sc 7), .int (sc 8), .int (sc 9), .int (sc 10), .int (sc 11)]))], wA, wB, wL, wT, wY, wk_94]) rfl ?_
              refine q_lstore_n C dX6_digest_101 102 rfl [(1, .long (31 * (31 * (31 * (31 * u3 + (((sc 10) : Int32).toInt64)) + (((sc 11) : Int32).toInt64)) + (((nI (k_lm bx at0 (-1) (k_T bx at0))) : Int32).toInt64)) + (((nI (k_wr (k_bs bx at0 (-1) (k_T bx at0)).1)) : Int32).toInt64))), (3, .int (nI b)), (0, .ref h0)] (by decide) rfl ?_
              refine q_lload_n C dX6_digest_102 103 0 rfl rfl ?_
              refine q_aload_n C dX6_digest_103 104 2 rfl rfl ?_
              refine q_callV (k := 0) (ci := 5) (n := 0) (rest := [.long (31 * (31 * (31 * (31 * u3 + (((sc 10) : Int32).toInt64)) + (((sc 11) : Int32).toInt64)) + (((nI (k_lm bx at0 (-1) (k_T bx at0))) : Int32).toInt64)) + (((nI (k_wr (k_bs bx at0 (-1) (k_T bx at0)).1)) : Int32).toInt64))]) (Rr := [wB, wT, wY, wk_94]) C rfl (k_isX_recv hXox1) rfl (c_X6_rightShare l hZ hI hN h0 aO aY aN hsn aT aK ([(h0, .inr (5, [.ref aO, .ref aY, .ref aN, .int hsn, .ref aT, .ref aK]))]) hXox1 aB aL aS sc ([(aO, .inr (3, [.ref aB, .ref aL, .ref aS, .int (sc 3), .int (sc 5), .int (sc 6), .int (sc 7), .int (sc 8), .int (sc 9), .int (sc 10), .int (sc 11)]))]) hOox2 wA hA ln wL hL) gX6_digest_X6_rightShare rfl rfl rfl (by decide +kernel) B.1 ⟨Nat.le_of_ble_eq_true rfl, Nat.le_of_ble_eq_true rfl⟩ rfl rfl (Nat.le_of_ble_eq_true rfl) dX6_digest_104 ⟨(Nat.le_of_ble_eq_true rfl), (Nat.le_of_ble_eq_true rfl)⟩ [0, 1, 2, 4] [3, 5, 6, 7] (by decide : ([0, 1, 2, 4] ++ ([3, 5, 6, 7] : List Nat)).Perm (List.range 8)) rfl rfl 107 rfl (fun v0 R0 t0 ht0 hp0 => ?_)
              obtain ⟨rfl, rfl⟩ := hp0
              refine q_eqs (st' := [.double (k_sh ln), .long (31 * (31 * (31 * (31 * u3 + (((sc 10) : Int32).toInt64)) + (((sc 11) : Int32).toInt64)) + (((nI (k_lm bx at0 (-1) (k_T bx at0))) : Int32).toInt64)) + (((nI (k_wr (k_bs bx at0 (-1) (k_T bx at0)).1)) : Int32).toInt64))]) rfl ?_
              refine q_reord [0, 1, 2, 4, 3, 5, 6, 7] (by decide : ([0, 1, 2, 4, 3, 5, 6, 7] : List Nat).Perm (List.range 8)) (Rs' := [[(h0, .inr (5, [.ref aO, .ref aY, .ref aN, .int hsn, .ref aT, .ref aK]))], [(aO, .inr (3, [.ref aB, .ref aL, .ref aS, .int (sc 3), .int (sc 5), .int (sc 6), .int (sc 7), .int (sc 8), .int (sc 9), .int (sc 10), .int (sc 11)]))], wA, wB, wL, wT, wY, wk_94]) rfl rfl ?_
              rcases k_sh_bits (ln := ln) (by omega) with ⟨nb, hnb8, hnbc⟩ | ⟨hb0, hbz⟩
              · refine q_callS (n := 1) (rest := [.long (31 * (31 * (31 * (31 * u3 + (((sc 10) : Int32).toInt64)) + (((sc 11) : Int32).toInt64)) + (((nI (k_lm bx at0 (-1) (k_T bx at0))) : Int32).toInt64)) + (((nI (k_wr (k_bs bx at0 (-1) (k_T bx at0)).1)) : Int32).toInt64))]) (Rr := [[(h0, .inr (5, [.ref aO, .ref aY, .ref aN, .int hsn, .ref aT, .ref aK]))], [(aO, .inr (3, [.ref aB, .ref aL, .ref aS, .int (sc 3), .int (sc 5), .int (sc 6), .int (sc 7), .int (sc 8), .int (sc 9), .int (sc 10), .int (sc 11)]))], wA, wB, wL, wT, wY, wk_94]) C (c_X6_bitsOf_b l hZ hI (k_sh ln) nb hnbc hnb8) gX6_digest_X6_bitsOf rfl rfl rfl (by decide +kernel) B.1 ⟨Nat.le_of_ble_eq_true rfl, Nat.le_of_ble_eq_true rfl⟩ rfl rfl (Nat.le_of_ble_eq_true rfl) dX6_digest_107 ⟨(Nat.le_of_ble_eq_true rfl), (Nat.le_of_ble_eq_true rfl)⟩ [] [0, 1, 2, 3, 4, 5, 6, 7] (by decide : ([] ++ ([0, 1, 2, 3, 4, 5, 6, 7] : List Nat)).Perm (List.range 8)) rfl rfl 110 rfl (fun v0 R0 t0 ht0 hp0 => ?_)
                obtain ⟨rfl, rfl⟩ := hp0
                refine q_eqs (st' := [.long (((k_sh ln)).toInt64), .long (31 * (31 * (31 * (31 * u3 + (((sc 10) : Int32).toInt64)) + (((sc 11) : Int32).toInt64)) + (((nI (k_lm bx at0 (-1) (k_T bx at0))) : Int32).toInt64)) + (((nI (k_wr (k_bs bx at0 (-1) (k_T bx at0)).1)) : Int32).toInt64))]) rfl ?_
                refine q_eqR (Rs' := [[(h0, .inr (5, [.ref aO, .ref aY, .ref aN, .int hsn, .ref aT, .ref aK]))], [(aO, .inr (3, [.ref aB, .ref aL, .ref aS, .int (sc 3), .int (sc 5), .int (sc 6), .int (sc 7), .int (sc 8), .int (sc 9), .int (sc 10), .int (sc 11)]))], wA, wB, wL, wT, wY, wk_94]) rfl ?_
                refine q_callS (n := 2) (rest := []) (Rr := [[(h0, .inr (5, [.ref aO, .ref aY, .ref aN, .int hsn, .ref aT, .ref aK]))], [(aO, .inr (3, [.ref aB, .ref aL, .ref aS, .int (sc 3), .int (sc 5), .int (sc 6), .int (sc 7), .int (sc 8), .int (sc 9), .int (sc 10), .int (sc 11)]))], wA, wB, wL, wT, wY, wk_94]) C (c_X6_mixed l hZ hI (31 * (31 * (31 * (31 * u3 + (((sc 10) : Int32).toInt64)) + (((sc 11) : Int32).toInt64)) + (((nI (k_lm bx at0 (-1) (k_T bx at0))) : Int32).toInt64)) + (((nI (k_wr (k_bs bx at0 (-1) (k_T bx at0)).1)) : Int32).toInt64)) (((k_sh ln)).toInt64)) gX6_digest_X6_mixed rfl rfl rfl (by decide +kernel) B.1 ⟨Nat.le_of_ble_eq_true rfl, Nat.le_of_ble_eq_true rfl⟩ rfl rfl (Nat.le_of_ble_eq_true rfl) dX6_digest_110 ⟨(Nat.le_of_ble_eq_true rfl), (Nat.le_of_ble_eq_true rfl)⟩ [] [0, 1, 2, 3, 4, 5, 6, 7] (by decide : ([] ++ ([0, 1, 2, 3, 4, 5, 6, 7] : List Nat)).Perm (List.range 8)) rfl rfl 113 rfl (fun v0 R0 t0 ht0 hp0 => ?_)
                obtain ⟨rfl, rfl⟩ := hp0
                refine q_eqs (st' := [.long (31 * (31 * (31 * (31 * (31 * u3 + (((sc 10) : Int32).toInt64)) + (((sc 11) : Int32).toInt64)) + (((nI (k_lm bx at0 (-1) (k_T bx at0))) : Int32).toInt64)) + (((nI (k_wr (k_bs bx at0 (-1) (k_T bx at0)).1)) : Int32).toInt64)) + (((k_sh ln)).toInt64))]) rfl ?_
                refine q_eqR (Rs' := [[(h0, .inr (5, [.ref aO, .ref aY, .ref aN, .int hsn, .ref aT, .ref aK]))], [(aO, .inr (3, [.ref aB, .ref aL, .ref aS, .int (sc 3), .int (sc 5), .int (sc 6), .int (sc 7), .int (sc 8), .int (sc 9), .int (sc 10), .int (sc 11)]))], wA, wB, wL, wT, wY, wk_94]) rfl ?_
                refine q_lstore_n C dX6_digest_113 114 rfl [(1, .long (31 * (31 * (31 * (31 * (31 * u3 + (((sc 10) : Int32).toInt64)) + (((sc 11) : Int32).toInt64)) + (((nI (k_lm bx at0 (-1) (k_T bx at0))) : Int32).toInt64)) + (((nI (k_wr (k_bs bx at0 (-1) (k_T bx at0)).1)) : Int32).toInt64)) + (((k_sh ln)).toInt64))), (3, .int (nI b)), (0, .ref h0)] (by decide) rfl ?_
                refine q_lload_n C dX6_digest_114 115 0 rfl rfl ?_
                refine q_aload_n C dX6_digest_115 116 2 rfl rfl ?_
                refine q_get (k := 0) (j := 0) (f := 4) C hinX6 f33 (fun _ h => h) (by decide) rfl dX6_digest_116 119 rfl rfl rfl rfl ?_
                obtain ⟨htkx3, hcx3, ftx3, htrx3, rfl⟩ := hT
                have htlx3 := htkx3.1
                have hTox3 : k_isT cI aT tx [(aT, .inr (4, [.ref hcx3, .int (nI tx.length)])), (hcx3, .inl (cI, 60, .inl ftx3))] := ⟨htkx3, hcx3, ftx3, htrx3, rfl⟩
                refine q_getN (k := 5) (j := 0) (f := 1) C hinX5 f140 (fun _ h => h) (by decide) rfl dX6_digest_119 122 rfl rfl rfl rfl ?_
                refine q_i2l (v := ((nI tx.length) : Int32).toInt64) C dX6_digest_122 123 rfl rfl ?_
                refine q_callS (n := 2) (rest := []) (Rr := [[(h0, .inr (5, [.ref aO, .ref aY, .ref aN, .int hsn, .ref aT, .ref aK]))], [(aO, .inr (3, [.ref aB, .ref aL, .ref aS, .int (sc 3), .int (sc 5), .int (sc 6), .int (sc 7), .int (sc 8), .int (sc 9), .int (sc 10), .int (sc 11)]))], wA, wB, wL, [(aT, .inr (4, [.ref hcx3, .int (nI tx.length)])), (hcx3, .inl (cI, 60, .inl ftx3))], wY, wk_94]) C (c_X6_mixed l hZ hI (31 * (31 * (31 * (31 * (31 * u3 + (((sc 10) : Int32).toInt64)) + (((sc 11) : Int32).toInt64)) + (((nI (k_lm bx at0 (-1) (k_T bx at0))) : Int32).toInt64)) + (((nI (k_wr (k_bs bx at0 (-1) (k_T bx at0)).1)) : Int32).toInt64)) + (((k_sh ln)).toInt64)) (((nI tx.length) : Int32).toInt64)) gX6_digest_X6_mixed rfl rfl rfl (by decide +kernel) B.1 ⟨Nat.le_of_ble_eq_true rfl, Nat.le_of_ble_eq_true rfl⟩ rfl rfl (Nat.le_of_ble_eq_true rfl) dX6_digest_123 ⟨(Nat.le_of_ble_eq_true rfl), (Nat.le_of_ble_eq_true rfl)⟩ [] [0, 1, 2, 3, 4, 5, 6, 7] (by decide : ([] ++ ([0, 1, 2, 3, 4, 5, 6, 7] : List Nat)).Perm (List.range 8)) rfl rfl 126 rfl (fun v0 R0 t0 ht0 hp0 => ?_)
                obtain ⟨rfl, rfl⟩ := hp0
                refine q_eqs (st' := [.long (31 * (31 * (31 * (31 * (31 * (31 * u3 + (((sc 10) : Int32).toInt64)) + (((sc 11) : Int32).toInt64)) + (((nI (k_lm bx at0 (-1) (k_T bx at0))) : Int32).toInt64)) + (((nI (k_wr (k_bs bx at0 (-1) (k_T bx at0)).1)) : Int32).toInt64)) + (((k_sh ln)).toInt64)) + (((nI tx.length) : Int32).toInt64))]) rfl ?_
                refine q_eqR (Rs' := [[(h0, .inr (5, [.ref aO, .ref aY, .ref aN, .int hsn, .ref aT, .ref aK]))], [(aO, .inr (3, [.ref aB, .ref aL, .ref aS, .int (sc 3), .int (sc 5), .int (sc 6), .int (sc 7), .int (sc 8), .int (sc 9), .int (sc 10), .int (sc 11)]))], wA, wB, wL, [(aT, .inr (4, [.ref hcx3, .int (nI tx.length)])), (hcx3, .inl (cI, 60, .inl ftx3))], wY, wk_94]) rfl ?_
                refine q_lstore_n C dX6_digest_126 127 rfl [(1, .long (31 * (31 * (31 * (31 * (31 * (31 * u3 + (((sc 10) : Int32).toInt64)) + (((sc 11) : Int32).toInt64)) + (((nI (k_lm bx at0 (-1) (k_T bx at0))) : Int32).toInt64)) + (((nI (k_wr (k_bs bx at0 (-1) (k_T bx at0)).1)) : Int32).toInt64)) + (((k_sh ln)).toInt64)) + (((nI tx.length) : Int32).toInt64))), (3, .int (nI b)), (0, .ref h0)] (by decide) rfl ?_
                refine q_iconst (v := nI 0) C dX6_digest_127 128 rfl (by decide) ?_
                refine q_istore_n C dX6_digest_128 129 rfl [(3, .int (nI 0)), (1, .long (31 * (31 * (31 * (31 * (31 * (31 * u3 + (((sc 10) : Int32).toInt64)) + (((sc 11) : Int32).toInt64)) + (((nI (k_lm bx at0 (-1) (k_T bx at0))) : Int32).toInt64)) + (((nI (k_wr (k_bs bx at0 (-1) (k_T bx at0)).1)) : Int32).toInt64)) + (((k_sh ln)).toInt64)) + (((nI tx.length) : Int32).toInt64))), (0, .ref h0)] (by decide) rfl ?_
                have lp3 : ∀ (kk : Nat) (q : Nat) (uq : Int64), tx.length - q < kk → ∀ (hiq : q ≤ tx.length), ∀ (huq : uq = k_hf (fun i => nI (k_at tx i)) (k_dgB bx at0 ln sc sz tx.length) q), q_V p9 l e9 R s9 m9 args below meth c9 D A 4 Q 0 0 129 [(3, .int (nI q)), (1, .long uq), (0, .ref h0)] [] [[(h0, .inr (5, [.ref aO, .ref aY, .ref aN, .int hsn, .ref aT, .ref aK]))], [(aO, .inr (3, [.ref aB, .ref aL, .ref aS, .int (sc 3), .int (sc 5), .int (sc 6), .int (sc 7), .int (sc 8), .int (sc 9), .int (sc 10), .int (sc 11)]))], wA, wB, wL, [(aT, .inr (4, [.ref hcx3, .int (nI tx.length)])), (hcx3, .inl (cI, 60, .inl ftx3))], wY, wk_94] := by
                  intro kk
                  induction kk with
                  | zero => intro q uq hkk; exact absurd hkk (Nat.not_lt_zero _)
                  | succ kk ih_lp3 =>
                    intro q uq hkk hiq huq
                    refine q_iload_n C dX6_digest_129 130 0 rfl rfl ?_
                    refine q_aload_n C dX6_digest_130 131 2 rfl rfl ?_
                    refine q_get (k := 0) (j := 0) (f := 4) C hinX6 f33 (fun _ h => h) (by decide) rfl dX6_digest_131 134 rfl rfl rfl rfl ?_
                    refine q_getN (k := 5) (j := 0) (f := 1) C hinX5 f140 (fun _ h => h) (by decide) rfl dX6_digest_134 137 rfl rfl rfl rfl ?_
                    refine q_icmp_ge C dX6_digest_137 140 160 rfl (by decide) (nI_leI (by omega) (by omega)) (fun h137 => ?_) (fun h137 => ?_)
                    · refine q_lload_n C dX6_digest_160 161 1 rfl rfl ?_
                      exact q_lret C B dX6_digest_161 rfl rfl (fun t0 ht0 => ⟨by rw [k_dig_of huq (by omega)], _, hwk_94, rfl⟩)
                    · refine q_lload_n C dX6_digest_140 141 1 rfl rfl ?_
                      refine q_aload_n C dX6_digest_141 142 2 rfl rfl ?_
                      refine q_get (k := 0) (j := 0) (f := 4) C hinX6 f33 (fun _ h => h) (by decide) rfl dX6_digest_142 145 rfl rfl rfl rfl ?_
                      refine q_iload_n C dX6_digest_145 146 0 rfl rfl ?_
                      refine q_callV (k := 5) (ci := 4) (n := 1) (rest := [.long uq]) (Rr := [[(h0, .inr (5, [.ref aO, .ref aY, .ref aN, .int hsn, .ref aT, .ref aK]))], [(aO, .inr (3, [.ref aB, .ref aL, .ref aS, .int (sc 3), .int (sc 5), .int (sc 6), .int (sc 7), .int (sc 8), .int (sc 9), .int (sc 10), .int (sc 11)]))], wA, wB, wL, wY, wk_94]) C rfl (k_isT_recv hTox3) rfl (c_X5_codeAt l hZ hI aT tx ([(aT, .inr (4, [.ref hcx3, .int (nI tx.length)])), (hcx3, .inl (cI, 60, .inl ftx3))]) hTox3 q (by omega)) gX6_digest_X5_codeAt rfl rfl rfl (by decide +kernel) B.1 ⟨Nat.le_of_ble_eq_true rfl, Nat.le_of_ble_eq_true rfl⟩ rfl rfl (Nat.le_of_ble_eq_true rfl) dX6_digest_146 ⟨(Nat.le_of_ble_eq_true rfl), (Nat.le_of_ble_eq_true rfl)⟩ [5] [0, 1, 2, 3, 4, 6, 7] (by decide : ([5] ++ ([0, 1, 2, 3, 4, 6, 7] : List Nat)).Perm (List.range 8)) rfl rfl 149 rfl (fun v0 R0 t0 ht0 hp0 => ?_)
                      obtain ⟨rfl, rfl⟩ := hp0
                      refine q_eqs (st' := [.int (nI (k_at tx q)), .long uq]) rfl ?_
                      refine q_reord [1, 2, 3, 4, 5, 0, 6, 7] (by decide : ([1, 2, 3, 4, 5, 0, 6, 7] : List Nat).Perm (List.range 8)) (Rs' := [[(h0, .inr (5, [.ref aO, .ref aY, .ref aN, .int hsn, .ref aT, .ref aK]))], [(aO, .inr (3, [.ref aB, .ref aL, .ref aS, .int (sc 3), .int (sc 5), .int (sc 6), .int (sc 7), .int (sc 8), .int (sc 9), .int (sc 10), .int (sc 11)]))], wA, wB, wL, [(aT, .inr (4, [.ref hcx3, .int (nI tx.length)])), (hcx3, .inl (cI, 60, .inl ftx3))], wY, wk_94]) rfl rfl ?_
                      have hc146 : k_at tx q ≤ 126 := (k_at_le hTox3.1.2 (by omega)).2
                      have hd146 : 33 ≤ k_at tx q := (k_at_le hTox3.1.2 (by omega)).1
                      refine q_i2l (v := ((nI (k_at tx q)) : Int32).toInt64) C dX6_digest_149 150 rfl rfl ?_
                      refine q_callS (n := 2) (rest := []) (Rr := [[(h0, .inr (5, [.ref aO, .ref aY, .ref aN, .int hsn, .ref aT, .ref aK]))], [(aO, .inr (3, [.ref aB, .ref aL, .ref aS, .int (sc 3), .int (sc 5), .int (sc 6), .int (sc 7), .int (sc 8), .int (sc 9), .int (sc 10), .int (sc 11)]))], wA, wB, wL, [(aT, .inr (4, [.ref hcx3, .int (nI tx.length)])), (hcx3, .inl (cI, 60, .inl ftx3))], wY, wk_94]) C (c_X6_mixed l hZ hI uq (((nI (k_at tx q)) : Int32).toInt64)) gX6_digest_X6_mixed rfl rfl rfl (by decide +kernel) B.1 ⟨Nat.le_of_ble_eq_true rfl, Nat.le_of_ble_eq_true rfl⟩ rfl rfl (Nat.le_of_ble_eq_true rfl) dX6_digest_150 ⟨(Nat.le_of_ble_eq_true rfl), (Nat.le_of_ble_eq_true rfl)⟩ [] [0, 1, 2, 3, 4, 5, 6, 7] (by decide : ([] ++ ([0, 1, 2, 3, 4, 5, 6, 7] : List Nat)).Perm (List.range 8)) rfl rfl 153 rfl (fun v0 R0 t0 ht0 hp0 => ?_)
                      obtain ⟨rfl, rfl⟩ := hp0
                      refine q_eqs (st' := [.long (31 * uq + (((nI (k_at tx q)) : Int32).toInt64))]) rfl ?_
                      refine q_eqR (Rs' := [[(h0, .inr (5, [.ref aO, .ref aY, .ref aN, .int hsn, .ref aT, .ref aK]))], [(aO, .inr (3, [.ref aB, .ref aL, .ref aS, .int (sc 3), .int (sc 5), .int (sc 6), .int (sc 7), .int (sc 8), .int (sc 9), .int (sc 10), .int (sc 11)]))], wA, wB, wL, [(aT, .inr (4, [.ref hcx3, .int (nI tx.length)])), (hcx3, .inl (cI, 60, .inl ftx3))], wY, wk_94]) rfl ?_
                      refine q_lstore_n C dX6_digest_153 154 rfl [(1, .long (31 * uq + (((nI (k_at tx q)) : Int32).toInt64))), (3, .int (nI q)), (0, .ref h0)] (by decide) rfl ?_
                      refine q_iinc (v := nI (q + 1)) C dX6_digest_154 157 1 rfl rfl (q_ninc1 (by omega)) [(3, .int (nI (q + 1))), (1, .long (31 * uq + (((nI (k_at tx q)) : Int32).toInt64))), (0, .ref h0)] (by decide) rfl ?_
                      refine q_goto C dX6_digest_157 129 (by decide) ?_
                      refine q_sub (L' := [(3, .int (nI (q + 1))), (1, .long (31 * uq + (((nI (k_at tx q)) : Int32).toInt64))), (0, .ref h0)]) [0, 1, 2] rfl ?_
                      exact ih_lp3 (q + 1) (31 * uq + (((nI (k_at tx q)) : Int32).toInt64)) (by omega) (by omega) (by rw [huq]; rfl)
                refine q_sub (L' := [(3, .int (nI 0)), (1, .long (31 * (31 * (31 * (31 * (31 * (31 * u3 + (((sc 10) : Int32).toInt64)) + (((sc 11) : Int32).toInt64)) + (((nI (k_lm bx at0 (-1) (k_T bx at0))) : Int32).toInt64)) + (((nI (k_wr (k_bs bx at0 (-1) (k_T bx at0)).1)) : Int32).toInt64)) + (((k_sh ln)).toInt64)) + (((nI tx.length) : Int32).toInt64))), (0, .ref h0)]) [0, 1, 2] rfl ?_
                exact lp3 _ 0 (31 * (31 * (31 * (31 * (31 * (31 * u3 + (((sc 10) : Int32).toInt64)) + (((sc 11) : Int32).toInt64)) + (((nI (k_lm bx at0 (-1) (k_T bx at0))) : Int32).toInt64)) + (((nI (k_wr (k_bs bx at0 (-1) (k_T bx at0)).1)) : Int32).toInt64)) + (((k_sh ln)).toInt64)) + (((nI tx.length) : Int32).toInt64)) (Nat.lt_succ_self _) (by omega) (by rw [hu3, hub, show b = 12 by omega]; rfl)
              · refine q_callS (n := 1) (rest := [.long (31 * (31 * (31 * (31 * u3 + (((sc 10) : Int32).toInt64)) + (((sc 11) : Int32).toInt64)) + (((nI (k_lm bx at0 (-1) (k_T bx at0))) : Int32).toInt64)) + (((nI (k_wr (k_bs bx at0 (-1) (k_T bx at0)).1)) : Int32).toInt64))]) (Rr := [[(h0, .inr (5, [.ref aO, .ref aY, .ref aN, .int hsn, .ref aT, .ref aK]))], [(aO, .inr (3, [.ref aB, .ref aL, .ref aS, .int (sc 3), .int (sc 5), .int (sc 6), .int (sc 7), .int (sc 8), .int (sc 9), .int (sc 10), .int (sc 11)]))], wA, wB, wL, wT, wY, wk_94]) C (c_X6_bitsOf_a l hZ hI (k_sh ln) hbz) gX6_digest_X6_bitsOf rfl rfl rfl (by decide +kernel) B.1 ⟨Nat.le_of_ble_eq_true rfl, Nat.le_of_ble_eq_true rfl⟩ rfl rfl (Nat.le_of_ble_eq_true rfl) dX6_digest_107 ⟨(Nat.le_of_ble_eq_true rfl), (Nat.le_of_ble_eq_true rfl)⟩ [] [0, 1, 2, 3, 4, 5, 6, 7] (by decide : ([] ++ ([0, 1, 2, 3, 4, 5, 6, 7] : List Nat)).Perm (List.range 8)) rfl rfl 110 rfl (fun v0 R0 t0 ht0 hp0 => ?_)
                obtain ⟨rfl, rfl⟩ := hp0
                refine q_eqs (st' := [.long 0, .long (31 * (31 * (31 * (31 * u3 + (((sc 10) : Int32).toInt64)) + (((sc 11) : Int32).toInt64)) + (((nI (k_lm bx at0 (-1) (k_T bx at0))) : Int32).toInt64)) + (((nI (k_wr (k_bs bx at0 (-1) (k_T bx at0)).1)) : Int32).toInt64))]) rfl ?_
                refine q_eqR (Rs' := [[(h0, .inr (5, [.ref aO, .ref aY, .ref aN, .int hsn, .ref aT, .ref aK]))], [(aO, .inr (3, [.ref aB, .ref aL, .ref aS, .int (sc 3), .int (sc 5), .int (sc 6), .int (sc 7), .int (sc 8), .int (sc 9), .int (sc 10), .int (sc 11)]))], wA, wB, wL, wT, wY, wk_94]) rfl ?_
                refine q_eqs (st' := [.long ((k_sh ln).toInt64), .long (31 * (31 * (31 * (31 * u3 + (((sc 10) : Int32).toInt64)) + (((sc 11) : Int32).toInt64)) + (((nI (k_lm bx at0 (-1) (k_T bx at0))) : Int32).toInt64)) + (((nI (k_wr (k_bs bx at0 (-1) (k_T bx at0)).1)) : Int32).toInt64))]) (by rw [hb0]) ?_
                refine q_callS (n := 2) (rest := []) (Rr := [[(h0, .inr (5, [.ref aO, .ref aY, .ref aN, .int hsn, .ref aT, .ref aK]))], [(aO, .inr (3, [.ref aB, .ref aL, .ref aS, .int (sc 3), .int (sc 5), .int (sc 6), .int (sc 7), .int (sc 8), .int (sc 9), .int (sc 10), .int (sc 11)]))], wA, wB, wL, wT, wY, wk_94]) C (c_X6_mixed l hZ hI (31 * (31 * (31 * (31 * u3 + (((sc 10) : Int32).toInt64)) + (((sc 11) : Int32).toInt64)) + (((nI (k_lm bx at0 (-1) (k_T bx at0))) : Int32).toInt64)) + (((nI (k_wr (k_bs bx at0 (-1) (k_T bx at0)).1)) : Int32).toInt64)) ((k_sh ln).toInt64)) gX6_digest_X6_mixed rfl rfl rfl (by decide +kernel) B.1 ⟨Nat.le_of_ble_eq_true rfl, Nat.le_of_ble_eq_true rfl⟩ rfl rfl (Nat.le_of_ble_eq_true rfl) dX6_digest_110 ⟨(Nat.le_of_ble_eq_true rfl), (Nat.le_of_ble_eq_true rfl)⟩ [] [0, 1, 2, 3, 4, 5, 6, 7] (by decide : ([] ++ ([0, 1, 2, 3, 4, 5, 6, 7] : List Nat)).Perm (List.range 8)) rfl rfl 113 rfl (fun v0 R0 t0 ht0 hp0 => ?_)
                obtain ⟨rfl, rfl⟩ := hp0
                refine q_eqs (st' := [.long (31 * (31 * (31 * (31 * (31 * u3 + (((sc 10) : Int32).toInt64)) + (((sc 11) : Int32).toInt64)) + (((nI (k_lm bx at0 (-1) (k_T bx at0))) : Int32).toInt64)) + (((nI (k_wr (k_bs bx at0 (-1) (k_T bx at0)).1)) : Int32).toInt64)) + ((k_sh ln).toInt64))]) rfl ?_
                refine q_eqR (Rs' := [[(h0, .inr (5, [.ref aO, .ref aY, .ref aN, .int hsn, .ref aT, .ref aK]))], [(aO, .inr (3, [.ref aB, .ref aL, .ref aS, .int (sc 3), .int (sc 5), .int (sc 6), .int (sc 7), .int (sc 8), .int (sc 9), .int (sc 10), .int (sc 11)]))], wA, wB, wL, wT, wY, wk_94]) rfl ?_
                refine q_lstore_n C dX6_digest_113 114 rfl [(1, .long (31 * (31 * (31 * (31 * (31 * u3 + (((sc 10) : Int32).toInt64)) + (((sc 11) : Int32).toInt64)) + (((nI (k_lm bx at0 (-1) (k_T bx at0))) : Int32).toInt64)) + (((nI (k_wr (k_bs bx at0 (-1) (k_T bx at0)).1)) : Int32).toInt64)) + ((k_sh ln).toInt64))), (3, .int (nI b)), (0, .ref h0)] (by decide) rfl ?_
                refine q_lload_n C dX6_digest_114 115 0 rfl rfl ?_
                refine q_aload_n C dX6_digest_115 116 2 rfl rfl ?_
                refine q_get (k := 0) (j := 0) (f := 4) C hinX6 f33 (fun _ h => h) (by decide) rfl dX6_digest_116 119 rfl rfl rfl rfl ?_
                obtain ⟨htkx4, hcx4, ftx4, htrx4, rfl⟩ := hT
                have htlx4 := htkx4.1
                have hTox4 : k_isT cI aT tx [(aT, .inr (4, [.ref hcx4, .int (nI tx.length)])), (hcx4, .inl (cI, 60, .inl ftx4))] := ⟨htkx4, hcx4, ftx4, htrx4, rfl⟩
                refine q_getN (k := 5) (j := 0) (f := 1) C hinX5 f140 (fun _ h => h) (by decide) rfl dX6_digest_119 122 rfl rfl rfl rfl ?_
                refine q_i2l (v := ((nI tx.length) : Int32).toInt64) C dX6_digest_122 123 rfl rfl ?_
                refine q_callS (n := 2) (rest := []) (Rr := [[(h0, .inr (5, [.ref aO, .ref aY, .ref aN, .int hsn, .ref aT, .ref aK]))], [(aO, .inr (3, [.ref aB, .ref aL, .ref aS, .int (sc 3), .int (sc 5), .int (sc 6), .int (sc 7), .int (sc 8), .int (sc 9), .int (sc 10), .int (sc 11)]))], wA, wB, wL, [(aT, .inr (4, [.ref hcx4, .int (nI tx.length)])), (hcx4, .inl (cI, 60, .inl ftx4))], wY, wk_94]) C (c_X6_mixed l hZ hI (31 * (31 * (31 * (31 * (31 * u3 + (((sc 10) : Int32).toInt64)) + (((sc 11) : Int32).toInt64)) + (((nI (k_lm bx at0 (-1) (k_T bx at0))) : Int32).toInt64)) + (((nI (k_wr (k_bs bx at0 (-1) (k_T bx at0)).1)) : Int32).toInt64)) + ((k_sh ln).toInt64)) (((nI tx.length) : Int32).toInt64)) gX6_digest_X6_mixed rfl rfl rfl (by decide +kernel) B.1 ⟨Nat.le_of_ble_eq_true rfl, Nat.le_of_ble_eq_true rfl⟩ rfl rfl (Nat.le_of_ble_eq_true rfl) dX6_digest_123 ⟨(Nat.le_of_ble_eq_true rfl), (Nat.le_of_ble_eq_true rfl)⟩ [] [0, 1, 2, 3, 4, 5, 6, 7] (by decide : ([] ++ ([0, 1, 2, 3, 4, 5, 6, 7] : List Nat)).Perm (List.range 8)) rfl rfl 126 rfl (fun v0 R0 t0 ht0 hp0 => ?_)
                obtain ⟨rfl, rfl⟩ := hp0
                refine q_eqs (st' := [.long (31 * (31 * (31 * (31 * (31 * (31 * u3 + (((sc 10) : Int32).toInt64)) + (((sc 11) : Int32).toInt64)) + (((nI (k_lm bx at0 (-1) (k_T bx at0))) : Int32).toInt64)) + (((nI (k_wr (k_bs bx at0 (-1) (k_T bx at0)).1)) : Int32).toInt64)) + ((k_sh ln).toInt64)) + (((nI tx.length) : Int32).toInt64))]) rfl ?_
                refine q_eqR (Rs' := [[(h0, .inr (5, [.ref aO, .ref aY, .ref aN, .int hsn, .ref aT, .ref aK]))], [(aO, .inr (3, [.ref aB, .ref aL, .ref aS, .int (sc 3), .int (sc 5), .int (sc 6), .int (sc 7), .int (sc 8), .int (sc 9), .int (sc 10), .int (sc 11)]))], wA, wB, wL, [(aT, .inr (4, [.ref hcx4, .int (nI tx.length)])), (hcx4, .inl (cI, 60, .inl ftx4))], wY, wk_94]) rfl ?_
                refine q_lstore_n C dX6_digest_126 127 rfl [(1, .long (31 * (31 * (31 * (31 * (31 * (31 * u3 + (((sc 10) : Int32).toInt64)) + (((sc 11) : Int32).toInt64)) + (((nI (k_lm bx at0 (-1) (k_T bx at0))) : Int32).toInt64)) + (((nI (k_wr (k_bs bx at0 (-1) (k_T bx at0)).1)) : Int32).toInt64)) + ((k_sh ln).toInt64)) + (((nI tx.length) : Int32).toInt64))), (3, .int (nI b)), (0, .ref h0)] (by decide) rfl ?_
                refine q_iconst (v := nI 0) C dX6_digest_127 128 rfl (by decide) ?_
                refine q_istore_n C dX6_digest_128 129 rfl [(3, .int (nI 0)), (1, .long (31 * (31 * (31 * (31 * (31 * (31 * u3 + (((sc 10) : Int32).toInt64)) + (((sc 11) : Int32).toInt64)) + (((nI (k_lm bx at0 (-1) (k_T bx at0))) : Int32).toInt64)) + (((nI (k_wr (k_bs bx at0 (-1) (k_T bx at0)).1)) : Int32).toInt64)) + ((k_sh ln).toInt64)) + (((nI tx.length) : Int32).toInt64))), (0, .ref h0)] (by decide) rfl ?_
                have lp3 : ∀ (kk : Nat) (q : Nat) (uq : Int64), tx.length - q < kk → ∀ (hiq : q ≤ tx.length), ∀ (huq : uq = k_hf (fun i => nI (k_at tx i)) (k_dgB bx at0 ln sc sz tx.length) q), q_V p9 l e9 R s9 m9 args below meth c9 D A 4 Q 0 0 129 [(3, .int (nI q)), (1, .long uq), (0, .ref h0)] [] [[(h0, .inr (5, [.ref aO, .ref aY, .ref aN, .int hsn, .ref aT, .ref aK]))], [(aO, .inr (3, [.ref aB, .ref aL, .ref aS, .int (sc 3), .int (sc 5), .int (sc 6), .int (sc 7), .int (sc 8), .int (sc 9), .int (sc 10), .int (sc 11)]))], wA, wB, wL, [(aT, .inr (4, [.ref hcx4, .int (nI tx.length)])), (hcx4, .inl (cI, 60, .inl ftx4))], wY, wk_94] := by
                  intro kk
                  induction kk with
                  | zero => intro q uq hkk; exact absurd hkk (Nat.not_lt_zero _)
                  | succ kk ih_lp3 =>
                    intro q uq hkk hiq huq
                    refine q_iload_n C dX6_digest_129 130 0 rfl rfl ?_
                    refine q_aload_n C dX6_digest_130 131 2 rfl rfl ?_
                    refine q_get (k := 0) (j := 0) (f := 4) C hinX6 f33 (fun _ h => h) (by decide) rfl dX6_digest_131 134 rfl rfl rfl rfl ?_
                    refine q_getN (k := 5) (j := 0) (f := 1) C hinX5 f140 (fun _ h => h) (by decide) rfl dX6_digest_134 137 rfl rfl rfl rfl ?_
                    refine q_icmp_ge C dX6_digest_137 140 160 rfl (by decide) (nI_leI (by omega) (by omega)) (fun h137 => ?_) (fun h137 => ?_)
                    · refine q_lload_n C dX6_digest_160 161 1 rfl rfl ?_
                      exact q_lret C B dX6_digest_161 rfl rfl (fun t0 ht0 => ⟨by rw [k_dig_of huq (by omega)], _, hwk_94, rfl⟩)
                    · refine q_lload_n C dX6_digest_140 141 1 rfl rfl ?_
                      refine q_aload_n C dX6_digest_141 142 2 rfl rfl ?_
                      refine q_get (k := 0) (j := 0) (f := 4) C hinX6 f33 (fun _ h => h) (by decide) rfl dX6_digest_142 145 rfl rfl rfl rfl ?_
                      refine q_iload_n C dX6_digest_145 146 0 rfl rfl ?_
                      refine q_callV (k := 5) (ci := 4) (n := 1) (rest := [.long uq]) (Rr := [[(h0, .inr (5, [.ref aO, .ref aY, .ref aN, .int hsn, .ref aT, .ref aK]))], [(aO, .inr (3, [.ref aB, .ref aL, .ref aS, .int (sc 3), .int (sc 5), .int (sc 6), .int (sc 7), .int (sc 8), .int (sc 9), .int (sc 10), .int (sc 11)]))], wA, wB, wL, wY, wk_94]) C rfl (k_isT_recv hTox4) rfl (c_X5_codeAt l hZ hI aT tx ([(aT, .inr (4, [.ref hcx4, .int (nI tx.length)])), (hcx4, .inl (cI, 60, .inl ftx4))]) hTox4 q (by omega)) gX6_digest_X5_codeAt rfl rfl rfl (by decide +kernel) B.1 ⟨Nat.le_of_ble_eq_true rfl, Nat.le_of_ble_eq_true rfl⟩ rfl rfl (Nat.le_of_ble_eq_true rfl) dX6_digest_146 ⟨(Nat.le_of_ble_eq_true rfl), (Nat.le_of_ble_eq_true rfl)⟩ [5] [0, 1, 2, 3, 4, 6, 7] (by decide : ([5] ++ ([0, 1, 2, 3, 4, 6, 7] : List Nat)).Perm (List.range 8)) rfl rfl 149 rfl (fun v0 R0 t0 ht0 hp0 => ?_)
                      obtain ⟨rfl, rfl⟩ := hp0
                      refine q_eqs (st' := [.int (nI (k_at tx q)), .long uq]) rfl ?_
                      refine q_reord [1, 2, 3, 4, 5, 0, 6, 7] (by decide : ([1, 2, 3, 4, 5, 0, 6, 7] : List Nat).Perm (List.range 8)) (Rs' := [[(h0, .inr (5, [.ref aO, .ref aY, .ref aN, .int hsn, .ref aT, .ref aK]))], [(aO, .inr (3, [.ref aB, .ref aL, .ref aS, .int (sc 3), .int (sc 5), .int (sc 6), .int (sc 7), .int (sc 8), .int (sc 9), .int (sc 10), .int (sc 11)]))], wA, wB, wL, [(aT, .inr (4, [.ref hcx4, .int (nI tx.length)])), (hcx4, .inl (cI, 60, .inl ftx4))], wY, wk_94]) rfl rfl ?_
                      have hc146 : k_at tx q ≤ 126 := (k_at_le hTox4.1.2 (by omega)).2
                      have hd146 : 33 ≤ k_at tx q := (k_at_le hTox4.1.2 (by omega)).1
                      refine q_i2l (v := ((nI (k_at tx q)) : Int32).toInt64) C dX6_digest_149 150 rfl rfl ?_
                      refine q_callS (n := 2) (rest := []) (Rr := [[(h0, .inr (5, [.ref aO, .ref aY, .ref aN, .int hsn, .ref aT, .ref aK]))], [(aO, .inr (3, [.ref aB, .ref aL, .ref aS, .int (sc 3), .int (sc 5), .int (sc 6), .int (sc 7), .int (sc 8), .int (sc 9), .int (sc 10), .int (sc 11)]))], wA, wB, wL, [(aT, .inr (4, [.ref hcx4, .int (nI tx.length)])), (hcx4, .inl (cI, 60, .inl ftx4))], wY, wk_94]) C (c_X6_mixed l hZ hI uq (((nI (k_at tx q)) : Int32).toInt64)) gX6_digest_X6_mixed rfl rfl rfl (by decide +kernel) B.1 ⟨Nat.le_of_ble_eq_true rfl, Nat.le_of_ble_eq_true rfl⟩ rfl rfl (Nat.le_of_ble_eq_true rfl) dX6_digest_150 ⟨(Nat.le_of_ble_eq_true rfl), (Nat.le_of_ble_eq_true rfl)⟩ [] [0, 1, 2, 3, 4, 5, 6, 7] (by decide : ([] ++ ([0, 1, 2, 3, 4, 5, 6, 7] : List Nat)).Perm (List.range 8)) rfl rfl 153 rfl (fun v0 R0 t0 ht0 hp0 => ?_)
                      obtain ⟨rfl, rfl⟩ := hp0
                      refine q_eqs (st' := [.long (31 * uq + (((nI (k_at tx q)) : Int32).toInt64))]) rfl ?_
                      refine q_eqR (Rs' := [[(h0, .inr (5, [.ref aO, .ref aY, .ref aN, .int hsn, .ref aT, .ref aK]))], [(aO, .inr (3, [.ref aB, .ref aL, .ref aS, .int (sc 3), .int (sc 5), .int (sc 6), .int (sc 7), .int (sc 8), .int (sc 9), .int (sc 10), .int (sc 11)]))], wA, wB, wL, [(aT, .inr (4, [.ref hcx4, .int (nI tx.length)])), (hcx4, .inl (cI, 60, .inl ftx4))], wY, wk_94]) rfl ?_
                      refine q_lstore_n C dX6_digest_153 154 rfl [(1, .long (31 * uq + (((nI (k_at tx q)) : Int32).toInt64))), (3, .int (nI q)), (0, .ref h0)] (by decide) rfl ?_
                      refine q_iinc (v := nI (q + 1)) C dX6_digest_154 157 1 rfl rfl (q_ninc1 (by omega)) [(3, .int (nI (q + 1))), (1, .long (31 * uq + (((nI (k_at tx q)) : Int32).toInt64))), (0, .ref h0)] (by decide) rfl ?_
                      refine q_goto C dX6_digest_157 129 (by decide) ?_
                      refine q_sub (L' := [(3, .int (nI (q + 1))), (1, .long (31 * uq + (((nI (k_at tx q)) : Int32).toInt64))), (0, .ref h0)]) [0, 1, 2] rfl ?_
                      exact ih_lp3 (q + 1) (31 * uq + (((nI (k_at tx q)) : Int32).toInt64)) (by omega) (by omega) (by rw [huq]; rfl)
                refine q_sub (L' := [(3, .int (nI 0)), (1, .long (31 * (31 * (31 * (31 * (31 * (31 * u3 + (((sc 10) : Int32).toInt64)) + (((sc 11) : Int32).toInt64)) + (((nI (k_lm bx at0 (-1) (k_T bx at0))) : Int32).toInt64)) + (((nI (k_wr (k_bs bx at0 (-1) (k_T bx at0)).1)) : Int32).toInt64)) + ((k_sh ln).toInt64)) + (((nI tx.length) : Int32).toInt64))), (0, .ref h0)]) [0, 1, 2] rfl ?_
                exact lp3 _ 0 (31 * (31 * (31 * (31 * (31 * (31 * u3 + (((sc 10) : Int32).toInt64)) + (((sc 11) : Int32).toInt64)) + (((nI (k_lm bx at0 (-1) (k_T bx at0))) : Int32).toInt64)) + (((nI (k_wr (k_bs bx at0 (-1) (k_T bx at0)).1)) : Int32).toInt64)) + ((k_sh ln).toInt64)) + (((nI tx.length) : Int32).toInt64)) (Nat.lt_succ_self _) (by omega) (by rw [hu3, hub, show b = 12 by omega]; rfl)
            · refine q_aload_n C dX6_digest_37 38 2 rfl rfl ?_
              refine q_lload_n C dX6_digest_38 39 1 rfl rfl ?_
              refine q_iload_n C dX6_digest_39 40 0 rfl rfl ?_
              refine q_callV (k := 0) (ci := 5) (n := 2) (rest := []) (Rr := [wT, wY, kw]) C rfl (k_isX_recv hX) rfl (c_X6_mixedWithBox l hZ hI hN h0 aO aY aN hsn aT aK wX hX aB aL aS sc wO hO wA hA bx at0 wB hB ln wL hL ub b (by omega)) gX6_digest_X6_mixedWithBox rfl rfl rfl (by decide +kernel) B.1 ⟨Nat.le_of_ble_eq_true rfl, Nat.le_of_ble_eq_true rfl⟩ rfl rfl (Nat.le_of_ble_eq_true rfl) dX6_digest_40 ⟨(Nat.le_of_ble_eq_true rfl), (Nat.le_of_ble_eq_true rfl)⟩ [0, 1, 2, 3, 4] [5, 6, 7] (by decide : ([0, 1, 2, 3, 4] ++ ([5, 6, 7] : List Nat)).Perm (List.range 8)) rfl rfl 43 rfl (fun v0 R0 t0 ht0 hp0 => ?_)
              obtain ⟨rfl, rfl⟩ := hp0
              refine q_eqs (st' := [.long (k_hb bx at0 ln sc b ub)]) rfl ?_
              refine q_eqR (Rs' := [wX, wO, wA, wB, wL, wT, wY, kw]) rfl ?_
              refine q_lstore_n C dX6_digest_43 44 rfl [(1, .long (k_hb bx at0 ln sc b ub)), (3, .int (nI b)), (0, .ref h0)] (by decide) rfl ?_
              refine q_iinc (v := nI (b + 1)) C dX6_digest_44 47 1 rfl rfl (q_ninc1 (by omega)) [(3, .int (nI (b + 1))), (1, .long (k_hb bx at0 ln sc b ub)), (0, .ref h0)] (by decide) rfl ?_
              refine q_goto C dX6_digest_47 31 (by decide) ?_
              refine q_sub (L' := [(3, .int (nI (b + 1))), (1, .long (k_hb bx at0 ln sc b ub)), (0, .ref h0)]) [0, 1, 2] rfl ?_
              exact ih_lp2 (b + 1) (k_hb bx at0 ln sc b ub) (by omega) (by omega) (by rw [hub]; rfl)
        refine q_sub (L' := [(3, .int (nI 0)), (1, .long ui), (0, .ref h0)]) [0, 1, 2] rfl ?_
        exact lp2 _ 0 ui (Nat.lt_succ_self _) (by omega) (by rw [hui, show i = 18 by omega]; rfl)
      · refine q_lload_n C dX6_digest_12 13 1 rfl rfl ?_
        refine q_aload_n C dX6_digest_13 14 2 rfl rfl ?_
        refine q_iload_n C dX6_digest_14 15 0 rfl rfl ?_
        refine q_callV (k := 0) (ci := 5) (n := 1) (rest := [.long ui]) (Rr := [wT, kw]) C rfl (k_isX_recv hX) rfl (c_X6_numberOfAll l hZ hI hN h0 aO aY aN hsn aT aK wX hX aB aL aS sc wO hO wA hA bx at0 wB hB ln wL hL aG nx sz wY hY i (by omega) hcs hws) gX6_digest_X6_numberOfAll rfl rfl rfl (by decide +kernel) B.1 ⟨Nat.le_of_ble_eq_true rfl, Nat.le_of_ble_eq_true rfl⟩ rfl rfl (Nat.le_of_ble_eq_true rfl) dX6_digest_15 ⟨(Nat.le_of_ble_eq_true rfl), (Nat.le_of_ble_eq_true rfl)⟩ [0, 1, 2, 3, 4, 6] [5, 7] (by decide : ([0, 1, 2, 3, 4, 6] ++ ([5, 7] : List Nat)).Perm (List.range 8)) rfl rfl 18 rfl (fun v0 R0 t0 ht0 hp0 => ?_)
        obtain ⟨rfl, rfl⟩ := hp0
        refine q_eqs (st' := [.int (k_tc bx at0 ln sc sz i), .long ui]) rfl ?_
        refine q_reord [0, 1, 2, 3, 4, 6, 5, 7] (by decide : ([0, 1, 2, 3, 4, 6, 5, 7] : List Nat).Perm (List.range 8)) (Rs' := [wX, wO, wA, wB, wL, wT, wY, kw]) rfl rfl ?_
        refine q_i2l (v := ((k_tc bx at0 ln sc sz i) : Int32).toInt64) C dX6_digest_18 19 rfl rfl ?_
        refine q_callS (n := 2) (rest := []) (Rr := [wX, wO, wA, wB, wL, wT, wY, kw]) C (c_X6_mixed l hZ hI ui (((k_tc bx at0 ln sc sz i) : Int32).toInt64)) gX6_digest_X6_mixed rfl rfl rfl (by decide +kernel) B.1 ⟨Nat.le_of_ble_eq_true rfl, Nat.le_of_ble_eq_true rfl⟩ rfl rfl (Nat.le_of_ble_eq_true rfl) dX6_digest_19 ⟨(Nat.le_of_ble_eq_true rfl), (Nat.le_of_ble_eq_true rfl)⟩ [] [0, 1, 2, 3, 4, 5, 6, 7] (by decide : ([] ++ ([0, 1, 2, 3, 4, 5, 6, 7] : List Nat)).Perm (List.range 8)) rfl rfl 22 rfl (fun v0 R0 t0 ht0 hp0 => ?_)
        obtain ⟨rfl, rfl⟩ := hp0
        refine q_eqs (st' := [.long (31 * ui + (((k_tc bx at0 ln sc sz i) : Int32).toInt64))]) rfl ?_
        refine q_eqR (Rs' := [wX, wO, wA, wB, wL, wT, wY, kw]) rfl ?_
        refine q_lstore_n C dX6_digest_22 23 rfl [(1, .long (31 * ui + (((k_tc bx at0 ln sc sz i) : Int32).toInt64))), (3, .int (nI i)), (0, .ref h0)] (by decide) rfl ?_
        refine q_iinc (v := nI (i + 1)) C dX6_digest_23 26 1 rfl rfl (q_ninc1 (by omega)) [(3, .int (nI (i + 1))), (1, .long (31 * ui + (((k_tc bx at0 ln sc sz i) : Int32).toInt64))), (0, .ref h0)] (by decide) rfl ?_
        refine q_goto C dX6_digest_26 6 (by decide) ?_
        refine q_sub (L' := [(3, .int (nI (i + 1))), (1, .long (31 * ui + (((k_tc bx at0 ln sc sz i) : Int32).toInt64))), (0, .ref h0)]) [0, 1, 2] rfl ?_
        exact ih_lp (i + 1) (31 * ui + (((k_tc bx at0 ln sc sz i) : Int32).toInt64)) (by omega) (by omega) (by rw [hui]; rfl)
  refine q_sub (L' := [(3, .int (nI 0)), (1, .long 3863), (0, .ref h0)]) [0, 1, 2] rfl ?_
  exact lp _ 0 3863 (Nat.lt_succ_self _) (by omega) rfl

set_option maxHeartbeats 400000 in
set_option maxRecDepth 100000 in
theorem c_X7_digest (l : Launch) {D : va_G} {tys : List (ClassId × FieldType)} {Z : (Nat → Prop) → State → Heap → Prop} (hZ : q_St Z) {cI : ClassId} (hI : tys[0]? = some (cI, .int)) (h0 : Nat) (aS : Nat) (aZ : Nat) (aV : Nat) (aN : Nat) (aU : Nat) (aD : Nat) (fd : Nat → Int32) (hh : Int64) (wP : va_W) (hP : k_isP cI h0 aS aZ aV aN aU aD fd hh wP) (bx : k_Bx) (at0 : Nat) (ln : List (Nat × Nat)) (sc : Nat → Int32) (wQ : va_W) (hQ : k_isQ cI aS bx at0 ln sc wQ) (zbx : k_Bx) (zat0 : Nat) (zln : List (Nat × Nat)) (zsc : Nat → Int32) (zw : va_W) (zh : k_isQ cI aZ zbx zat0 zln zsc zw) (tx : List Nat) (wU : va_W) (hU : k_isU cI aU tx wU) (m : Nat) (hty : k_ty bx ≤ 72) (hm0 : ∃ m, m ≤ 120 ∧ sc 0 = nI m) (hs1 : sc 1 = nI (k_n1 sc)) (hs9 : k_n1 sc ≤ 9) (hsv : m ≤ 6) (h4 : fd 4 = nI m) (q8 : fd 8 = nI tx.length) : q_Ct l D tys Z yX7_digest wsX7_digest ({ frames := 9, cells := 0, slots := 0, locals := 282 } : Room) 0 0 [.ref h0] [wP, wQ, zw, wU] (fun v0 R0 _ => v0 = some (.long (k_dig bx at0 ln sc m tx)) ∧ ∃ wP', k_isP cI h0 aS aZ aV aN aU aD (upd (upd (upd fd 0 (nI 0)) 13 (nI (k_lm bx at0 (-1) (k_T bx at0)))) 14 (nI (k_wr (k_bs bx at0 (-1) (k_T bx at0)).1))) (k_dig bx at0 ln sc m tx) wP' ∧ ∃ wQ', k_isQ cI aS bx at0 ln sc wQ' ∧ ∃ zw', k_isQ cI aZ bx at0 ln sc zw' ∧ R0 = [wP', wQ', zw', wU]) := by
  have hcI := hI
  refine q_ct (cc := cX7_digest) (maxL := 2) (ret := (some .long)) (own := RX7) (by decide) rfl hZ (Nat.le_of_ble_eq_true rfl) rfl ?_
  intro p9 e9 R s9 m9 args below meth c9 A Q C B
  have hts := C.2.2.2.2.1
  have hinX7 : ∀ w ∈ u_ws RX7 TX7 16, w ∈ wsX7_digest := by decide +kernel
  have f28 := hts (.fieldLink RX7 28 "SortCasesModel" "thrown" "I") (by decide +kernel)
  have cst236 := hts (.constantLong RX7 236 3863) (by decide +kernel)
  have f228 := hts (.fieldLink RX7 228 "SortCasesModel" "hash" "J") (by decide +kernel)
  have f7 := hts (.fieldLink RX7 7 "SortCasesModel" "s" "[I") (by decide +kernel)
  have f213 := hts (.fieldLink RX7 213 "SortCasesModel" "lastMove" "I") (by decide +kernel)
  have f216 := hts (.fieldLink RX7 216 "SortCasesModel" "wrongBehind" "I") (by decide +kernel)
  have f129 := hts (.fieldLink RX7 129 "SortCasesModel" "length" "I") (by decide +kernel)
  have f22 := hts (.fieldLink RX7 22 "SortCasesModel" "buffer" "[I") (by decide +kernel)
  refine q_eqL (L' := [(0, .ref h0)]) rfl ?_
  have hll := hQ.2.2.1.1
  have htl := hU.1.1
  refine q_aload_n C dX7_digest_0 1 0 rfl rfl ?_
  refine q_iconst (v := nI 0) C dX7_digest_1 2 rfl (by decide) ?_
  obtain rfl := hP
  have hPo1 : k_isP cI h0 aS aZ aV aN aU aD fd hh [(h0, .inr (6, [.int (fd 0), .ref aS, .ref aZ, .ref aV, .int (fd 4), .ref aN, .int (fd 6), .ref aU, .int (fd 8), .int (fd 9), .int (fd 10), .ref aD, .int (fd 12), .int (fd 13), .int (fd 14), .long hh]))] := rfl
  refine q_put (k := 0) (j := 0) (f := 0) C hinX7 tyX7 tyX7_ok nmX7 f28 (fun _ h => h) (by decide) rfl rfl (tyX7_ok 0 (by decide)) rfl rfl dX7_digest_2 5 rfl rfl rfl (Nat.le_of_ble_eq_true rfl) [[(h0, .inr (6, [.int (nI 0), .ref aS, .ref aZ, .ref aV, .int (fd 4), .ref aN, .int (fd 6), .ref aU, .int (fd 8), .int (fd 9), .int (fd 10), .ref aD, .int (fd 12), .int (fd 13), .int (fd 14), .long hh]))], wQ, zw, wU] rfl ?_
  have hPp2 : k_isP cI h0 aS aZ aV aN aU aD (upd fd 0 (nI 0)) hh [(h0, .inr (6, [.int (nI 0), .ref aS, .ref aZ, .ref aV, .int (fd 4), .ref aN, .int (fd 6), .ref aU, .int (fd 8), .int (fd 9), .int (fd 10), .ref aD, .int (fd 12), .int (fd 13), .int (fd 14), .long hh]))] := rfl
  refine q_aload_n C dX7_digest_5 6 0 rfl rfl ?_
  refine q_ldc2 C cst236 dX7_digest_6 9 rfl ?_
  refine q_put (k := 0) (j := 0) (f := 15) C hinX7 tyX7 tyX7_ok nmX7 f228 (fun _ h => h) (by decide) rfl rfl (tyX7_ok 15 (by decide)) rfl rfl dX7_digest_9 12 rfl rfl rfl (Nat.le_of_ble_eq_true rfl) [[(h0, .inr (6, [.int (nI 0), .ref aS, .ref aZ, .ref aV, .int (fd 4), .ref aN, .int (fd 6), .ref aU, .int (fd 8), .int (fd 9), .int (fd 10), .ref aD, .int (fd 12), .int (fd 13), .int (fd 14), .long 3863]))], wQ, zw, wU] rfl ?_
  have hPp3 : k_isP cI h0 aS aZ aV aN aU aD (upd fd 0 (nI 0)) 3863 [(h0, .inr (6, [.int (nI 0), .ref aS, .ref aZ, .ref aV, .int (fd 4), .ref aN, .int (fd 6), .ref aU, .int (fd 8), .int (fd 9), .int (fd 10), .ref aD, .int (fd 12), .int (fd 13), .int (fd 14), .long 3863]))] := rfl
  refine q_iconst (v := nI 0) C dX7_digest_12 13 rfl (by decide) ?_
  refine q_istore_n C dX7_digest_13 14 rfl [(1, .int (nI 0)), (0, .ref h0)] (by decide) rfl ?_
  have lp : ∀ (kk : Nat) (i : Nat) (wp : va_W), 18 - i < kk → ∀ (hii : i ≤ 18), ∀ (hwp : k_isP cI h0 aS aZ aV aN aU aD (upd fd 0 (nI 0)) (k_hf (k_tc bx at0 ln sc m) 3863 i) wp), q_V p9 l e9 R s9 m9 args below meth c9 D A 2 Q 0 0 14 [(1, .int (nI i)), (0, .ref h0)] [] [wp, wQ, zw, wU] := by
    intro kk
    induction kk with
    | zero => intro i wp hkk; exact absurd hkk (Nat.not_lt_zero _)
    | succ kk ih_lp =>
      intro i wp hkk hii hwp
      refine q_iload_n C dX7_digest_14 15 0 rfl rfl ?_
      refine q_bipush (v := nI 18) C dX7_digest_15 17 rfl (by decide) ?_
      refine q_icmp_ge C dX7_digest_17 20 36 rfl (by decide) (nI_leI (by omega) (by omega)) (fun h17 => ?_) (fun h17 => ?_)
      · have hP18 : k_isP cI h0 aS aZ aV aN aU aD (upd fd 0 (nI 0)) (k_hf (k_tc bx at0 ln sc m) 3863 18) wp := by rw [← show i = 18 by omega]; exact hwp
        refine q_iconst (v := nI 0) C dX7_digest_36 37 rfl (by decide) ?_
        refine q_istore_n C dX7_digest_37 38 rfl [(1, .int (nI 0)), (0, .ref h0)] (by decide) rfl ?_
        have lp2 : ∀ (kk : Nat) (b : Nat) (zb : k_Bx) (za : Nat) (zl : List (Nat × Nat)) (zs : Nat → Int32) (wp : va_W) (wq : va_W) (wz : va_W), 12 - b < kk → ∀ (hib : b ≤ 12), ∀ (hwp : k_isP cI h0 aS aZ aV aN aU aD (upd fd 0 (nI 0)) (k_hbs bx at0 ln sc (k_hf (k_tc bx at0 ln sc m) 3863 18) b) wp), ∀ (hwq : k_isQ cI aS bx at0 ln sc wq), ∀ (hwz : k_isQ cI aZ zb za zl zs wz), q_V p9 l e9 R s9 m9 args below meth c9 D A 2 Q 0 0 38 [(1, .int (nI b)), (0, .ref h0)] [] [wp, wq, wz, wU] := by
          intro kk
          induction kk with
          | zero => intro b zb za zl zs wp wq wz hkk; exact absurd hkk (Nat.not_lt_zero _)
          | succ kk ih_lp2 =>
            intro b zb za zl zs wp wq wz hkk hib hwp hwq hwz
            refine q_iload_n C dX7_digest_38 39 0 rfl rfl ?_
            refine q_bipush (v := nI 12) C dX7_digest_39 41 rfl (by decide) ?_
            refine q_icmp_ge C dX7_digest_41 44 55 rfl (by decide) (nI_leI (by omega) (by omega)) (fun h41 => ?_) (fun h41 => ?_)
            · have hP12 : k_isP cI h0 aS aZ aV aN aU aD (upd fd 0 (nI 0)) (k_hbs bx at0 ln sc (k_hf (k_tc bx at0 ln sc m) 3863 18) 12) wp := by rw [← show b = 12 by omega]; exact hwp
              refine q_aload_n C dX7_digest_55 56 1 rfl rfl ?_
              refine q_callV (k := 0) (ci := 6) (n := 0) (rest := []) (Rr := [wz, wU]) C rfl (k_isP_recv hP12) rfl (c_X7_hashesLine l hZ hI h0 aS aZ aV aN aU aD (upd fd 0 (nI 0)) ((k_hbs bx at0 ln sc (k_hf (k_tc bx at0 ln sc m) 3863 18) 12)) wp hP12 bx at0 ln sc wq hwq) gX7_digest_X7_hashesLine rfl rfl rfl (by decide +kernel) B.1 ⟨Nat.le_of_ble_eq_true rfl, Nat.le_of_ble_eq_true rfl⟩ rfl rfl (Nat.le_of_ble_eq_true rfl) dX7_digest_56 ⟨(Nat.le_of_ble_eq_true rfl), (Nat.le_of_ble_eq_true rfl)⟩ [0, 1] [2, 3] (by decide : ([0, 1] ++ ([2, 3] : List Nat)).Perm (List.range 4)) rfl rfl 59 rfl (fun v0 R0 t0 ht0 hp0 => ?_)
              obtain ⟨rfl, wP_56, hwP_56, rfl⟩ := hp0
              refine q_eqs (st' := []) rfl ?_
              refine q_eqR (Rs' := [wP_56, wq, wz, wU]) rfl ?_
              have hPA : k_isP cI h0 aS aZ aV aN aU aD (upd fd 0 (nI 0)) (k_dgA bx at0 ln sc m) wP_56 := hwP_56
              refine q_aload_n C dX7_digest_59 60 1 rfl rfl ?_
              refine q_aload_n C dX7_digest_60 61 1 rfl rfl ?_
              obtain rfl := hPA
              have hPo4 : k_isP cI h0 aS aZ aV aN aU aD (upd fd 0 (nI 0)) ((k_dgA bx at0 ln sc m)) [(h0, .inr (6, [.int (nI 0), .ref aS, .ref aZ, .ref aV, .int (fd 4), .ref aN, .int (fd 6), .ref aU, .int (fd 8), .int (fd 9), .int (fd 10), .ref aD, .int (fd 12), .int (fd 13), .int (fd 14), .long ((k_dgA bx at0 ln sc m))]))] := rfl
              refine q_get (k := 0) (j := 0) (f := 1) C hinX7 f7 (fun _ h => h) (by decide) rfl dX7_digest_61 64 rfl rfl rfl rfl ?_
              refine q_bipush (v := nI 10) C dX7_digest_64 66 rfl (by decide) ?_
              obtain ⟨hat5, hok5, hlok5, f5, hm5, rfl⟩ := hwq
              have hll5 := hlok5.1
              have hQo5 : k_isQ cI aS bx at0 ln sc [(aS, .inl (cI, 350, .inl f5))] := ⟨hat5, hok5, hlok5, f5, hm5, rfl⟩
              refine q_iald (k := 1) (j := 0) (v := sc 10) C dX7_digest_66 67 rfl rfl rfl hcI 10 rfl (by omega) (by decide) (hm5.1 10 (by decide) (by decide)) ?_
              refine q_i2l (v := ((sc 10) : Int32).toInt64) C dX7_digest_67 68 rfl rfl ?_
              refine q_callV (k := 0) (ci := 6) (n := 1) (rest := []) (Rr := [[(aS, .inl (cI, 350, .inl f5))], wz, wU]) C rfl (k_isP_recv hPo4) rfl (c_X7_hashes l hZ hI h0 aS aZ aV aN aU aD (upd fd 0 (nI 0)) ((k_dgA bx at0 ln sc m)) ([(h0, .inr (6, [.int (nI 0), .ref aS, .ref aZ, .ref aV, .int (fd 4), .ref aN, .int (fd 6), .ref aU, .int (fd 8), .int (fd 9), .int (fd 10), .ref aD, .int (fd 12), .int (fd 13), .int (fd 14), .long ((k_dgA bx at0 ln sc m))]))]) hPo4 (((sc 10) : Int32).toInt64)) gX7_digest_X7_hashes rfl rfl rfl (by decide +kernel) B.1 ⟨Nat.le_of_ble_eq_true rfl, Nat.le_of_ble_eq_true rfl⟩ rfl rfl (Nat.le_of_ble_eq_true rfl) dX7_digest_68 ⟨(Nat.le_of_ble_eq_true rfl), (Nat.le_of_ble_eq_true rfl)⟩ [0] [1, 2, 3] (by decide : ([0] ++ ([1, 2, 3] : List Nat)).Perm (List.range 4)) rfl rfl 71 rfl (fun v0 R0 t0 ht0 hp0 => ?_)
              obtain ⟨rfl, w_68, hw_68, rfl⟩ := hp0
              refine q_eqs (st' := []) rfl ?_
              refine q_eqR (Rs' := [w_68, [(aS, .inl (cI, 350, .inl f5))], wz, wU]) rfl ?_
              refine q_aload_n C dX7_digest_71 72 1 rfl rfl ?_
              refine q_aload_n C dX7_digest_72 73 1 rfl rfl ?_
              obtain rfl := hw_68
              have hPo6 : k_isP cI h0 aS aZ aV aN aU aD (upd fd 0 (nI 0)) (31 * ((k_dgA bx at0 ln sc m)) + (((sc 10) : Int32).toInt64)) [(h0, .inr (6, [.int (nI 0), .ref aS, .ref aZ, .ref aV, .int (fd 4), .ref aN, .int (fd 6), .ref aU, .int (fd 8), .int (fd 9), .int (fd 10), .ref aD, .int (fd 12), .int (fd 13), .int (fd 14), .long (31 * ((k_dgA bx at0 ln sc m)) + (((sc 10) : Int32).toInt64))]))] := rfl
              refine q_get (k := 0) (j := 0) (f := 1) C hinX7 f7 (fun _ h => h) (by decide) rfl dX7_digest_73 76 rfl rfl rfl rfl ?_
              refine q_bipush (v := nI 11) C dX7_digest_76 78 rfl (by decide) ?_
              refine q_iald (k := 1) (j := 0) (v := sc 11) C dX7_digest_78 79 rfl rfl rfl hcI 11 rfl (by omega) (by decide) (hm5.1 11 (by decide) (by decide)) ?_
              refine q_i2l (v := ((sc 11) : Int32).toInt64) C dX7_digest_79 80 rfl rfl ?_
              refine q_callV (k := 0) (ci := 6) (n := 1) (rest := []) (Rr := [[(aS, .inl (cI, 350, .inl f5))], wz, wU]) C rfl (k_isP_recv hPo6) rfl (c_X7_hashes l hZ hI h0 aS aZ aV aN aU aD (upd fd 0 (nI 0)) (31 * ((k_dgA bx at0 ln sc m)) + (((sc 10) : Int32).toInt64)) ([(h0, .inr (6, [.int (nI 0), .ref aS, .ref aZ, .ref aV, .int (fd 4), .ref aN, .int (fd 6), .ref aU, .int (fd 8), .int (fd 9), .int (fd 10), .ref aD, .int (fd 12), .int (fd 13), .int (fd 14), .long (31 * ((k_dgA bx at0 ln sc m)) + (((sc 10) : Int32).toInt64))]))]) hPo6 (((sc 11) : Int32).toInt64)) gX7_digest_X7_hashes rfl rfl rfl (by decide +kernel) B.1 ⟨Nat.le_of_ble_eq_true rfl, Nat.le_of_ble_eq_true rfl⟩ rfl rfl (Nat.le_of_ble_eq_true rfl) dX7_digest_80 ⟨(Nat.le_of_ble_eq_true rfl), (Nat.le_of_ble_eq_true rfl)⟩ [0] [1, 2, 3] (by decide : ([0] ++ ([1, 2, 3] : List Nat)).Perm (List.range 4)) rfl rfl 83 rfl (fun v0 R0 t0 ht0 hp0 => ?_)
              obtain ⟨rfl, w_80, hw_80, rfl⟩ := hp0
              refine q_eqs (st' := []) rfl ?_
              refine q_eqR (Rs' := [w_80, [(aS, .inl (cI, 350, .inl f5))], wz, wU]) rfl ?_
              refine q_aload_n C dX7_digest_83 84 1 rfl rfl ?_
              refine q_callV (k := 0) (ci := 6) (n := 0) (rest := []) (Rr := [wU]) C rfl (k_isP_recv hw_80) rfl (c_X7_sortsAll l hZ hI h0 aS aZ aV aN aU aD (upd fd 0 (nI 0)) (31 * (31 * ((k_dgA bx at0 ln sc m)) + (((sc 10) : Int32).toInt64)) + (((sc 11) : Int32).toInt64)) w_80 hw_80 bx at0 ln sc ([(aS, .inl (cI, 350, .inl f5))]) hQo5 zb za zl zs wz hwz hty) gX7_digest_X7_sortsAll rfl rfl rfl (by decide +kernel) B.1 ⟨Nat.le_of_ble_eq_true rfl, Nat.le_of_ble_eq_true rfl⟩ rfl rfl (Nat.le_of_ble_eq_true rfl) dX7_digest_84 ⟨(Nat.le_of_ble_eq_true rfl), (Nat.le_of_ble_eq_true rfl)⟩ [0, 1, 2] [3] (by decide : ([0, 1, 2] ++ ([3] : List Nat)).Perm (List.range 4)) rfl rfl 87 rfl (fun v0 R0 t0 ht0 hp0 => ?_)
              obtain ⟨rfl, wP_84, hwP_84, wQ_84, hwQ_84, wz_84, hwz_84, rfl⟩ := hp0
              refine q_eqs (st' := []) rfl ?_
              refine q_eqR (Rs' := [wP_84, wQ_84, wz_84, wU]) rfl ?_
              refine q_aload_n C dX7_digest_87 88 1 rfl rfl ?_
              refine q_aload_n C dX7_digest_88 89 1 rfl rfl ?_
              obtain rfl := hwP_84
              have hPo7 : k_isP cI h0 aS aZ aV aN aU aD (upd (upd (upd fd 0 (nI 0)) 13 (nI (k_lm bx at0 (-1) (k_T bx at0)))) 14 (nI (k_wr (k_bs bx at0 (-1) (k_T bx at0)).1))) (31 * (31 * ((k_dgA bx at0 ln sc m)) + (((sc 10) : Int32).toInt64)) + (((sc 11) : Int32).toInt64)) [(h0, .inr (6, [.int (nI 0), .ref aS, .ref aZ, .ref aV, .int (fd 4), .ref aN, .int (fd 6), .ref aU, .int (fd 8), .int (fd 9), .int (fd 10), .ref aD, .int (fd 12), .int (nI ((k_lm bx at0 (-1) (k_T bx at0)))), .int (nI ((k_wr (k_bs bx at0 (-1) (k_T bx at0)).1))), .long (31 * (31 * ((k_dgA bx at0 ln sc m)) + (((sc 10) : Int32).toInt64)) + (((sc 11) : Int32).toInt64))]))] := rfl
              refine q_get (k := 0) (j := 0) (f := 13) C hinX7 f213 (fun _ h => h) (by decide) rfl dX7_digest_89 92 rfl rfl rfl rfl ?_
              refine q_i2l (v := ((nI ((k_lm bx at0 (-1) (k_T bx at0)))) : Int32).toInt64) C dX7_digest_92 93 rfl rfl ?_
              refine q_callV (k := 0) (ci := 6) (n := 1) (rest := []) (Rr := [wQ_84, wz_84, wU]) C rfl (k_isP_recv hPo7) rfl (c_X7_hashes l hZ hI h0 aS aZ aV aN aU aD (upd (upd (upd fd 0 (nI 0)) 13 (nI (k_lm bx at0 (-1) (k_T bx at0)))) 14 (nI (k_wr (k_bs bx at0 (-1) (k_T bx at0)).1))) (31 * (31 * ((k_dgA bx at0 ln sc m)) + (((sc 10) : Int32).toInt64)) + (((sc 11) : Int32).toInt64)) ([(h0, .inr (6, [.int (nI 0), .ref aS, .ref aZ, .ref aV, .int (fd 4), .ref aN, .int (fd 6), .ref aU, .int (fd 8), .int (fd 9), .int (fd 10), .ref aD, .int (fd 12), .int (nI ((k_lm bx at0 (-1) (k_T bx at0)))), .int (nI ((k_wr (k_bs bx at0 (-1) (k_T bx at0)).1))), .long (31 * (31 * ((k_dgA bx at0 ln sc m)) + (((sc 10) : Int32).toInt64)) + (((sc 11) : Int32).toInt64))]))]) hPo7 (((nI ((k_lm bx at0 (-1) (k_T bx at0)))) : Int32).toInt64)) gX7_digest_X7_hashes rfl rfl rfl (by decide +kernel) B.1 ⟨Nat.le_of_ble_eq_true rfl, Nat.le_of_ble_eq_true rfl⟩ rfl rfl (Nat.le_of_ble_eq_true rfl) dX7_digest_93 ⟨(Nat.le_of_ble_eq_true rfl), (Nat.le_of_ble_eq_true rfl)⟩ [0] [1, 2, 3] (by decide : ([0] ++ ([1, 2, 3] : List Nat)).Perm (List.range 4)) rfl rfl 96 rfl (fun v0 R0 t0 ht0 hp0 => ?_)
              obtain ⟨rfl, w_93, hw_93, rfl⟩ := hp0
              refine q_eqs (st' := []) rfl ?_
              refine q_eqR (Rs' := [w_93, wQ_84, wz_84, wU]) rfl ?_
              refine q_aload_n C dX7_digest_96 97 1 rfl rfl ?_
              refine q_aload_n C dX7_digest_97 98 1 rfl rfl ?_
              obtain rfl := hw_93
              have hPo8 : k_isP cI h0 aS aZ aV aN aU aD (upd (upd (upd fd 0 (nI 0)) 13 (nI (k_lm bx at0 (-1) (k_T bx at0)))) 14 (nI (k_wr (k_bs bx at0 (-1) (k_T bx at0)).1))) (31 * (31 * (31 * ((k_dgA bx at0 ln sc m)) + (((sc 10) : Int32).toInt64)) + (((sc 11) : Int32).toInt64)) + (((nI ((k_lm bx at0 (-1) (k_T bx at0)))) : Int32).toInt64)) [(h0, .inr (6, [.int (nI 0), .ref aS, .ref aZ, .ref aV, .int (fd 4), .ref aN, .int (fd 6), .ref aU, .int (fd 8), .int (fd 9), .int (fd 10), .ref aD, .int (fd 12), .int (nI ((k_lm bx at0 (-1) (k_T bx at0)))), .int (nI ((k_wr (k_bs bx at0 (-1) (k_T bx at0)).1))), .long (31 * (31 * (31 * ((k_dgA bx at0 ln sc m)) + (((sc 10) : Int32).toInt64)) + (((sc 11) : Int32).toInt64)) + (((nI ((k_lm bx at0 (-1) (k_T bx at0)))) : Int32).toInt64))]))] := rfl
              refine q_get (k := 0) (j := 0) (f := 14) C hinX7 f216 (fun _ h => h) (by decide) rfl dX7_digest_98 101 rfl rfl rfl rfl ?_
              refine q_i2l (v := ((nI ((k_wr (k_bs bx at0 (-1) (k_T bx at0)).1))) : Int32).toInt64) C dX7_digest_101 102 rfl rfl ?_
              refine q_callV (k := 0) (ci := 6) (n := 1) (rest := []) (Rr := [wQ_84, wz_84, wU]) C rfl (k_isP_recv hPo8) rfl (c_X7_hashes l hZ hI h0 aS aZ aV aN aU aD (upd (upd (upd fd 0 (nI 0)) 13 (nI (k_lm bx at0 (-1) (k_T bx at0)))) 14 (nI (k_wr (k_bs bx at0 (-1) (k_T bx at0)).1))) (31 * (31 * (31 * ((k_dgA bx at0 ln sc m)) + (((sc 10) : Int32).toInt64)) + (((sc 11) : Int32).toInt64)) + (((nI ((k_lm bx at0 (-1) (k_T bx at0)))) : Int32).toInt64)) ([(h0, .inr (6, [.int (nI 0), .ref aS, .ref aZ, .ref aV, .int (fd 4), .ref aN, .int (fd 6), .ref aU, .int (fd 8), .int (fd 9), .int (fd 10), .ref aD, .int (fd 12), .int (nI ((k_lm bx at0 (-1) (k_T bx at0)))), .int (nI ((k_wr (k_bs bx at0 (-1) (k_T bx at0)).1))), .long (31 * (31 * (31 * ((k_dgA bx at0 ln sc m)) + (((sc 10) : Int32).toInt64)) + (((sc 11) : Int32).toInt64)) + (((nI ((k_lm bx at0 (-1) (k_T bx at0)))) : Int32).toInt64))]))]) hPo8 (((nI ((k_wr (k_bs bx at0 (-1) (k_T bx at0)).1))) : Int32).toInt64)) gX7_digest_X7_hashes rfl rfl rfl (by decide +kernel) B.1 ⟨Nat.le_of_ble_eq_true rfl, Nat.le_of_ble_eq_true rfl⟩ rfl rfl (Nat.le_of_ble_eq_true rfl) dX7_digest_102 ⟨(Nat.le_of_ble_eq_true rfl), (Nat.le_of_ble_eq_true rfl)⟩ [0] [1, 2, 3] (by decide : ([0] ++ ([1, 2, 3] : List Nat)).Perm (List.range 4)) rfl rfl 105 rfl (fun v0 R0 t0 ht0 hp0 => ?_)
              obtain ⟨rfl, w_102, hw_102, rfl⟩ := hp0
              refine q_eqs (st' := []) rfl ?_
              refine q_eqR (Rs' := [w_102, wQ_84, wz_84, wU]) rfl ?_
              refine q_aload_n C dX7_digest_105 106 1 rfl rfl ?_
              refine q_aload_n C dX7_digest_106 107 1 rfl rfl ?_
              refine q_callV (k := 0) (ci := 6) (n := 0) (rest := [.ref h0]) (Rr := [wz_84, wU]) C rfl (k_isP_recv hw_102) rfl (c_X7_share l hZ hI h0 aS aZ aV aN aU aD (upd (upd (upd fd 0 (nI 0)) 13 (nI (k_lm bx at0 (-1) (k_T bx at0)))) 14 (nI (k_wr (k_bs bx at0 (-1) (k_T bx at0)).1))) (31 * (31 * (31 * (31 * ((k_dgA bx at0 ln sc m)) + (((sc 10) : Int32).toInt64)) + (((sc 11) : Int32).toInt64)) + (((nI ((k_lm bx at0 (-1) (k_T bx at0)))) : Int32).toInt64)) + (((nI ((k_wr (k_bs bx at0 (-1) (k_T bx at0)).1))) : Int32).toInt64)) w_102 hw_102 bx at0 ln sc wQ_84 hwQ_84) gX7_digest_X7_share rfl rfl rfl (by decide +kernel) B.1 ⟨Nat.le_of_ble_eq_true rfl, Nat.le_of_ble_eq_true rfl⟩ rfl rfl (Nat.le_of_ble_eq_true rfl) dX7_digest_107 ⟨(Nat.le_of_ble_eq_true rfl), (Nat.le_of_ble_eq_true rfl)⟩ [0, 1] [2, 3] (by decide : ([0, 1] ++ ([2, 3] : List Nat)).Perm (List.range 4)) rfl rfl 110 rfl (fun v0 R0 t0 ht0 hp0 => ?_)
              obtain ⟨rfl, rfl⟩ := hp0
              refine q_eqs (st' := [.double (k_sh ln), .ref h0]) rfl ?_
              refine q_eqR (Rs' := [w_102, wQ_84, wz_84, wU]) rfl ?_
              refine q_callSX (n := 1) (rest := [.ref h0]) (Rr := [w_102, wQ_84, wz_84, wU]) C (c_Jxe99ae_doubleToLongBits_ccdee l hZ hI (k_sh ln) (k_sh_nan (by omega))) gX7_digest_Jxe99ae_doubleToLongBits_ccdee rfl rfl rfl (by decide +kernel) B.1 ⟨Nat.le_of_ble_eq_true rfl, Nat.le_of_ble_eq_true rfl⟩ rfl rfl (Nat.le_of_ble_eq_true rfl) dX7_digest_110 ⟨(Nat.le_of_ble_eq_true rfl), (Nat.le_of_ble_eq_true rfl)⟩ [] [0, 1, 2, 3] (by decide : ([] ++ ([0, 1, 2, 3] : List Nat)).Perm (List.range 4)) rfl rfl 113 rfl (fun v0 R0 t0 ht0 hp0 => ?_)
              obtain ⟨rfl, rfl⟩ := hp0
              refine q_eqs (st' := [.long (((k_sh ln)).toInt64), .ref h0]) rfl ?_
              refine q_eqR (Rs' := [w_102, wQ_84, wz_84, wU]) rfl ?_
              refine q_callV (k := 0) (ci := 6) (n := 1) (rest := []) (Rr := [wQ_84, wz_84, wU]) C rfl (k_isP_recv hw_102) rfl (c_X7_hashes l hZ hI h0 aS aZ aV aN aU aD (upd (upd (upd fd 0 (nI 0)) 13 (nI (k_lm bx at0 (-1) (k_T bx at0)))) 14 (nI (k_wr (k_bs bx at0 (-1) (k_T bx at0)).1))) (31 * (31 * (31 * (31 * ((k_dgA bx at0 ln sc m)) + (((sc 10) : Int32).toInt64)) + (((sc 11) : Int32).toInt64)) + (((nI ((k_lm bx at0 (-1) (k_T bx at0)))) : Int32).toInt64)) + (((nI ((k_wr (k_bs bx at0 (-1) (k_T bx at0)).1))) : Int32).toInt64)) w_102 hw_102 (((k_sh ln)).toInt64)) gX7_digest_X7_hashes rfl rfl rfl (by decide +kernel) B.1 ⟨Nat.le_of_ble_eq_true rfl, Nat.le_of_ble_eq_true rfl⟩ rfl rfl (Nat.le_of_ble_eq_true rfl) dX7_digest_113 ⟨(Nat.le_of_ble_eq_true rfl), (Nat.le_of_ble_eq_true rfl)⟩ [0] [1, 2, 3] (by decide : ([0] ++ ([1, 2, 3] : List Nat)).Perm (List.range 4)) rfl rfl 116 rfl (fun v0 R0 t0 ht0 hp0 => ?_)
              obtain ⟨rfl, w_113, hw_113, rfl⟩ := hp0
              refine q_eqs (st' := []) rfl ?_
              refine q_eqR (Rs' := [w_113, wQ_84, wz_84, wU]) rfl ?_
              refine q_aload_n C dX7_digest_116 117 1 rfl rfl ?_
              refine q_aload_n C dX7_digest_117 118 1 rfl rfl ?_
              obtain rfl := hw_113
              have hPo9 : k_isP cI h0 aS aZ aV aN aU aD (upd (upd (upd fd 0 (nI 0)) 13 (nI (k_lm bx at0 (-1) (k_T bx at0)))) 14 (nI (k_wr (k_bs bx at0 (-1) (k_T bx at0)).1))) (31 * (31 * (31 * (31 * (31 * ((k_dgA bx at0 ln sc m)) + (((sc 10) : Int32).toInt64)) + (((sc 11) : Int32).toInt64)) + (((nI ((k_lm bx at0 (-1) (k_T bx at0)))) : Int32).toInt64)) + (((nI ((k_wr (k_bs bx at0 (-1) (k_T bx at0)).1))) : Int32).toInt64)) + (((k_sh ln)).toInt64)) [(h0, .inr (6, [.int (nI 0), .ref aS, .ref aZ, .ref aV, .int (fd 4), .ref aN, .int (fd 6), .ref aU, .int (fd 8), .int (fd 9), .int (fd 10), .ref aD, .int (fd 12), .int (nI ((k_lm bx at0 (-1) (k_T bx at0)))), .int (nI ((k_wr (k_bs bx at0 (-1) (k_T bx at0)).1))), .long (31 * (31 * (31 * (31 * (31 * ((k_dgA bx at0 ln sc m)) + (((sc 10) : Int32).toInt64)) + (((sc 11) : Int32).toInt64)) + (((nI ((k_lm bx at0 (-1) (k_T bx at0)))) : Int32).toInt64)) + (((nI ((k_wr (k_bs bx at0 (-1) (k_T bx at0)).1))) : Int32).toInt64)) + (((k_sh ln)).toInt64))]))] := rfl
              refine q_get (k := 0) (j := 0) (f := 8) C hinX7 f129 (fun _ h => h) (by decide) rfl dX7_digest_118 121 rfl rfl rfl rfl ?_
              refine q_eqs (st' := [.int (nI tx.length), .ref h0]) (by show ([.int (fd 8), .ref h0] : List Value) = _; rw [q8]) ?_
              refine q_i2l (v := ((nI tx.length) : Int32).toInt64) C dX7_digest_121 122 rfl rfl ?_
              refine q_callV (k := 0) (ci := 6) (n := 1) (rest := []) (Rr := [wQ_84, wz_84, wU]) C rfl (k_isP_recv hPo9) rfl (c_X7_hashes l hZ hI h0 aS aZ aV aN aU aD (upd (upd (upd fd 0 (nI 0)) 13 (nI (k_lm bx at0 (-1) (k_T bx at0)))) 14 (nI (k_wr (k_bs bx at0 (-1) (k_T bx at0)).1))) (31 * (31 * (31 * (31 * (31 * ((k_dgA bx at0 ln sc m)) + (((sc 10) : Int32).toInt64)) + (((sc 11) : Int32).toInt64)) + (((nI ((k_lm bx at0 (-1) (k_T bx at0)))) : Int32).toInt64)) + (((nI ((k_wr (k_bs bx at0 (-1) (k_T bx at0)).1))) : Int32).toInt64)) + (((k_sh ln)).toInt64)) ([(h0, .inr (6, [.int (nI 0), .ref aS, .ref aZ, .ref aV, .int (fd 4), .ref aN, .int (fd 6), .ref aU, .int (fd 8), .int (fd 9), .int (fd 10), .ref aD, .int (fd 12), .int (nI ((k_lm bx at0 (-1) (k_T bx at0)))), .int (nI ((k_wr (k_bs bx at0 (-1) (k_T bx at0)).1))), .long (31 * (31 * (31 * (31 * (31 * ((k_dgA bx at0 ln sc m)) + (((sc 10) : Int32).toInt64)) + (((sc 11) : Int32).toInt64)) + (((nI ((k_lm bx at0 (-1) (k_T bx at0)))) : Int32).toInt64)) + (((nI ((k_wr (k_bs bx at0 (-1) (k_T bx at0)).1))) : Int32).toInt64)) + (((k_sh ln)).toInt64))]))]) hPo9 (((nI tx.length) : Int32).toInt64)) gX7_digest_X7_hashes rfl rfl rfl (by decide +kernel) B.1 ⟨Nat.le_of_ble_eq_true rfl, Nat.le_of_ble_eq_true rfl⟩ rfl rfl (Nat.le_of_ble_eq_true rfl) dX7_digest_122 ⟨(Nat.le_of_ble_eq_true rfl), (Nat.le_of_ble_eq_true rfl)⟩ [0] [1, 2, 3] (by decide : ([0] ++ ([1, 2, 3] : List Nat)).Perm (List.range 4)) rfl rfl 125 rfl (fun v0 R0 t0 ht0 hp0 => ?_)
              obtain ⟨rfl, w_122, hw_122, rfl⟩ := hp0
              refine q_eqs (st' := []) rfl ?_
              refine q_eqR (Rs' := [w_122, wQ_84, wz_84, wU]) rfl ?_
              have hPB : k_isP cI h0 aS aZ aV aN aU aD (upd (upd (upd fd 0 (nI 0)) 13 (nI (k_lm bx at0 (-1) (k_T bx at0)))) 14 (nI (k_wr (k_bs bx at0 (-1) (k_T bx at0)).1))) (k_dgB bx at0 ln sc m tx.length) w_122 := hw_122
              refine q_iconst (v := nI 0) C dX7_digest_125 126 rfl (by decide) ?_
              refine q_istore_n C dX7_digest_126 127 rfl [(1, .int (nI 0)), (0, .ref h0)] (by decide) rfl ?_
              have lp3 : ∀ (kk : Nat) (q : Nat) (wp3 : va_W), tx.length - q < kk → ∀ (hiq : q ≤ tx.length), ∀ (hwp3 : k_isP cI h0 aS aZ aV aN aU aD (upd (upd (upd fd 0 (nI 0)) 13 (nI (k_lm bx at0 (-1) (k_T bx at0)))) 14 (nI (k_wr (k_bs bx at0 (-1) (k_T bx at0)).1))) (k_hf (fun i => nI (k_at tx i)) (k_dgB bx at0 ln sc m tx.length) q) wp3), q_V p9 l e9 R s9 m9 args below meth c9 D A 2 Q 0 0 127 [(1, .int (nI q)), (0, .ref h0)] [] [wp3, wQ_84, wz_84, wU] := by
                intro kk
                induction kk with
                | zero => intro q wp3 hkk; exact absurd hkk (Nat.not_lt_zero _)
                | succ kk ih_lp3 =>
                  intro q wp3 hkk hiq hwp3
                  refine q_iload_n C dX7_digest_127 128 0 rfl rfl ?_
                  refine q_aload_n C dX7_digest_128 129 1 rfl rfl ?_
                  obtain rfl := hwp3
                  have hPo10 : k_isP cI h0 aS aZ aV aN aU aD (upd (upd (upd fd 0 (nI 0)) 13 (nI (k_lm bx at0 (-1) (k_T bx at0)))) 14 (nI (k_wr (k_bs bx at0 (-1) (k_T bx at0)).1))) ((k_hf (fun i => nI (k_at tx i)) (k_dgB bx at0 ln sc m tx.length) q)) [(h0, .inr (6, [.int (nI 0), .ref aS, .ref aZ, .ref aV, .int (fd 4), .ref aN, .int (fd 6), .ref aU, .int (fd 8), .int (fd 9), .int (fd 10), .ref aD, .int (fd 12), .int (nI ((k_lm bx at0 (-1) (k_T bx at0)))), .int (nI ((k_wr (k_bs bx at0 (-1) (k_T bx at0)).1))), .long ((k_hf (fun i => nI (k_at tx i)) (k_dgB bx at0 ln sc m tx.length) q))]))] := rfl
                  refine q_get (k := 0) (j := 0) (f := 8) C hinX7 f129 (fun _ h => h) (by decide) rfl dX7_digest_129 132 rfl rfl rfl rfl ?_
                  refine q_eqs (st' := [.int (nI tx.length), .int (nI q)]) (by show ([.int (fd 8), .int (nI q)] : List Value) = _; rw [q8]) ?_
                  refine q_icmp_ge C dX7_digest_132 135 152 rfl (by decide) (nI_leI (by omega) (by omega)) (fun h132 => ?_) (fun h132 => ?_)
                  · refine q_aload_n C dX7_digest_152 153 1 rfl rfl ?_
                    refine q_get (k := 0) (j := 0) (f := 15) C hinX7 f228 (fun _ h => h) (by decide) rfl dX7_digest_153 156 rfl rfl rfl rfl ?_
                    exact q_lret C B dX7_digest_156 rfl rfl (fun t0 ht0 => ⟨by rw [k_dig_of (u := k_hf (fun i => nI (k_at tx i)) (k_dgB bx at0 ln sc m tx.length) q) rfl (show q = tx.length by omega)], _, by rw [k_dig_of (u := k_hf (fun i => nI (k_at tx i)) (k_dgB bx at0 ln sc m tx.length) q) rfl (show q = tx.length by omega)]; exact hPo10, _, hwQ_84, _, hwz_84, by first | rfl | simp⟩)
                  · refine q_aload_n C dX7_digest_135 136 1 rfl rfl ?_
                    refine q_aload_n C dX7_digest_136 137 1 rfl rfl ?_
                    refine q_get (k := 0) (j := 0) (f := 7) C hinX7 f22 (fun _ h => h) (by decide) rfl dX7_digest_137 140 rfl rfl rfl rfl ?_
                    refine q_iload_n C dX7_digest_140 141 0 rfl rfl ?_
                    obtain ⟨htk11, fu11, htr11, rfl⟩ := hU
                    have htl11 := htk11.1
                    have hUo11 : k_isU cI aU tx [(aU, .inl (cI, 60, .inl fu11))] := ⟨htk11, fu11, htr11, rfl⟩
                    refine q_iald (k := 3) (j := 0) (v := nI (k_at tx q)) C dX7_digest_141 142 rfl rfl rfl hcI q rfl (by omega) (by decide) (htr11 q (by omega)) ?_
                    have hux141_1 : k_at tx q ≤ 126 := (k_at_le htk11.2 (by omega)).2
                    have huy141_2 : 33 ≤ k_at tx q := (k_at_le htk11.2 (by omega)).1
                    refine q_i2l (v := ((nI (k_at tx q)) : Int32).toInt64) C dX7_digest_142 143 rfl rfl ?_
                    refine q_callV (k := 0) (ci := 6) (n := 1) (rest := []) (Rr := [wQ_84, wz_84, [(aU, .inl (cI, 60, .inl fu11))]]) C rfl (k_isP_recv hPo10) rfl (c_X7_hashes l hZ hI h0 aS aZ aV aN aU aD (upd (upd (upd fd 0 (nI 0)) 13 (nI (k_lm bx at0 (-1) (k_T bx at0)))) 14 (nI (k_wr (k_bs bx at0 (-1) (k_T bx at0)).1))) ((k_hf (fun i => nI (k_at tx i)) (k_dgB bx at0 ln sc m tx.length) q)) ([(h0, .inr (6, [.int (nI 0), .ref aS, .ref aZ, .ref aV, .int (fd 4), .ref aN, .int (fd 6), .ref aU, .int (fd 8), .int (fd 9), .int (fd 10), .ref aD, .int (fd 12), .int (nI ((k_lm bx at0 (-1) (k_T bx at0)))), .int (nI ((k_wr (k_bs bx at0 (-1) (k_T bx at0)).1))), .long ((k_hf (fun i => nI (k_at tx i)) (k_dgB bx at0 ln sc m tx.length) q))]))]) hPo10 (((nI (k_at tx q)) : Int32).toInt64)) gX7_digest_X7_hashes rfl rfl rfl (by decide +kernel) B.1 ⟨Nat.le_of_ble_eq_true rfl, Nat.le_of_ble_eq_true rfl⟩ rfl rfl (Nat.le_of_ble_eq_true rfl) dX7_digest_143 ⟨(Nat.le_of_ble_eq_true rfl), (Nat.le_of_ble_eq_true rfl)⟩ [0] [1, 2, 3] (by decide : ([0] ++ ([1, 2, 3] : List Nat)).Perm (List.range 4)) rfl rfl 146 rfl (fun v0 R0 t0 ht0 hp0 => ?_)
                    obtain ⟨rfl, w_143, hw_143, rfl⟩ := hp0
                    refine q_eqs (st' := []) rfl ?_
                    refine q_eqR (Rs' := [w_143, wQ_84, wz_84, [(aU, .inl (cI, 60, .inl fu11))]]) rfl ?_
                    refine q_iinc (v := nI (q + 1)) C dX7_digest_146 149 0 rfl rfl (q_ninc1 (by omega)) [(1, .int (nI (q + 1))), (0, .ref h0)] (by decide) rfl ?_
                    refine q_goto C dX7_digest_149 127 (by decide) ?_
                    refine q_sub (L' := [(1, .int (nI (q + 1))), (0, .ref h0)]) [0, 1] rfl ?_
                    exact ih_lp3 (q + 1) w_143 (by omega) (by omega) hw_143
              refine q_sub (L' := [(1, .int (nI 0)), (0, .ref h0)]) [0, 1] rfl ?_
              exact lp3 _ 0 w_122 (Nat.lt_succ_self _) (by omega) hPB
            · refine q_aload_n C dX7_digest_44 45 1 rfl rfl ?_
              refine q_iload_n C dX7_digest_45 46 0 rfl rfl ?_
              refine q_callV (k := 0) (ci := 6) (n := 1) (rest := []) (Rr := [wU]) C rfl (k_isP_recv hwp) rfl (c_X7_hashesBox l hZ hI h0 aS aZ aV aN aU aD (upd fd 0 (nI 0)) ((k_hbs bx at0 ln sc (k_hf (k_tc bx at0 ln sc m) 3863 18) b)) wp hwp bx at0 ln sc wq hwq zb za zl zs wz hwz b (by omega) hm0 hs1 hs9) gX7_digest_X7_hashesBox rfl rfl rfl (by decide +kernel) B.1 ⟨Nat.le_of_ble_eq_true rfl, Nat.le_of_ble_eq_true rfl⟩ rfl rfl (Nat.le_of_ble_eq_true rfl) dX7_digest_46 ⟨(Nat.le_of_ble_eq_true rfl), (Nat.le_of_ble_eq_true rfl)⟩ [0, 1, 2] [3] (by decide : ([0, 1, 2] ++ ([3] : List Nat)).Perm (List.range 4)) rfl rfl 49 rfl (fun v0 R0 t0 ht0 hp0 => ?_)
              obtain ⟨rfl, wP_46, hwP_46, wQ_46, hwQ_46, wz_46, hwz_46, rfl⟩ := hp0
              refine q_eqs (st' := []) rfl ?_
              refine q_eqR (Rs' := [wP_46, wQ_46, wz_46, wU]) rfl ?_
              refine q_iinc (v := nI (b + 1)) C dX7_digest_49 52 0 rfl rfl (q_ninc1 (by omega)) [(1, .int (nI (b + 1))), (0, .ref h0)] (by decide) rfl ?_
              refine q_goto C dX7_digest_52 38 (by decide) ?_
              refine q_sub (L' := [(1, .int (nI (b + 1))), (0, .ref h0)]) [0, 1] rfl ?_
              exact ih_lp2 (b + 1) bx at0 ln sc wP_46 wQ_46 wz_46 (by omega) (by omega) hwP_46 hwQ_46 hwz_46
        refine q_sub (L' := [(1, .int (nI 0)), (0, .ref h0)]) [0, 1] rfl ?_
        exact lp2 _ 0 zbx zat0 zln zsc wp wQ zw (Nat.lt_succ_self _) (by omega) hP18 hQ zh
      · refine q_aload_n C dX7_digest_20 21 1 rfl rfl ?_
        refine q_aload_n C dX7_digest_21 22 1 rfl rfl ?_
        refine q_iload_n C dX7_digest_22 23 0 rfl rfl ?_
        refine q_callV (k := 0) (ci := 6) (n := 1) (rest := [.ref h0]) (Rr := [zw, wU]) C rfl (k_isP_recv hwp) rfl (c_X7_tellsCount l hZ hI h0 aS aZ aV aN aU aD (upd fd 0 (nI 0)) ((k_hf (k_tc bx at0 ln sc m) 3863 i)) wp hwp bx at0 ln sc wQ hQ i m (by omega) hsv (by rw [pk_un (by decide)]; exact h4)) gX7_digest_X7_tellsCount rfl rfl rfl (by decide +kernel) B.1 ⟨Nat.le_of_ble_eq_true rfl, Nat.le_of_ble_eq_true rfl⟩ rfl rfl (Nat.le_of_ble_eq_true rfl) dX7_digest_23 ⟨(Nat.le_of_ble_eq_true rfl), (Nat.le_of_ble_eq_true rfl)⟩ [0, 1] [2, 3] (by decide : ([0, 1] ++ ([2, 3] : List Nat)).Perm (List.range 4)) rfl rfl 26 rfl (fun v0 R0 t0 ht0 hp0 => ?_)
        obtain ⟨rfl, rfl⟩ := hp0
        refine q_eqs (st' := [.int (k_tc bx at0 ln sc m i), .ref h0]) rfl ?_
        refine q_eqR (Rs' := [wp, wQ, zw, wU]) rfl ?_
        refine q_i2l (v := ((k_tc bx at0 ln sc m i) : Int32).toInt64) C dX7_digest_26 27 rfl rfl ?_
        refine q_callV (k := 0) (ci := 6) (n := 1) (rest := []) (Rr := [wQ, zw, wU]) C rfl (k_isP_recv hwp) rfl (c_X7_hashes l hZ hI h0 aS aZ aV aN aU aD (upd fd 0 (nI 0)) ((k_hf (k_tc bx at0 ln sc m) 3863 i)) wp hwp (((k_tc bx at0 ln sc m i) : Int32).toInt64)) gX7_digest_X7_hashes rfl rfl rfl (by decide +kernel) B.1 ⟨Nat.le_of_ble_eq_true rfl, Nat.le_of_ble_eq_true rfl⟩ rfl rfl (Nat.le_of_ble_eq_true rfl) dX7_digest_27 ⟨(Nat.le_of_ble_eq_true rfl), (Nat.le_of_ble_eq_true rfl)⟩ [0] [1, 2, 3] (by decide : ([0] ++ ([1, 2, 3] : List Nat)).Perm (List.range 4)) rfl rfl 30 rfl (fun v0 R0 t0 ht0 hp0 => ?_)
        obtain ⟨rfl, w_27, hw_27, rfl⟩ := hp0
        refine q_eqs (st' := []) rfl ?_
        refine q_eqR (Rs' := [w_27, wQ, zw, wU]) rfl ?_
        refine q_iinc (v := nI (i + 1)) C dX7_digest_30 33 0 rfl rfl (q_ninc1 (by omega)) [(1, .int (nI (i + 1))), (0, .ref h0)] (by decide) rfl ?_
        refine q_goto C dX7_digest_33 14 (by decide) ?_
        refine q_sub (L' := [(1, .int (nI (i + 1))), (0, .ref h0)]) [0, 1] rfl ?_
        exact ih_lp (i + 1) w_27 (by omega) (by omega) hw_27
  refine q_sub (L' := [(1, .int (nI 0)), (0, .ref h0)]) [0, 1] rfl ?_
  exact lp _ 0 ([(h0, .inr (6, [.int (nI 0), .ref aS, .ref aZ, .ref aV, .int (fd 4), .ref aN, .int (fd 6), .ref aU, .int (fd 8), .int (fd 9), .int (fd 10), .ref aD, .int (fd 12), .int (fd 13), .int (fd 14), .long 3863]))]) (Nat.lt_succ_self _) (by omega) hPp3
