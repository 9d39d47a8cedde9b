set_option maxHeartbeats 400000 in
set_option maxRecDepth 100000 in
theorem c_X7_saves (l : Launch) {D : va_G} {tys : List (ClassId × FieldType)} {Z : (Nat → Prop) → State → Heap → Prop} (hZ : q_St Z) {cI : ClassId} (hI : tys[0]? = some (cI, .int)) (h0 : Nat) (aS : Nat) (aZ : Nat) (aV : Nat) (aN : Nat) (aU : Nat) (aD : Nat) (fd : Nat → Int32) (hh : Int64) (wP : va_W) (hP : k_isP cI h0 aS aZ aV aN aU aD fd hh wP) (bx : k_Bx) (at0 : Nat) (ln : List (Nat × Nat)) (sc : Nat → Int32) (wQ : va_W) (hQ : k_isQ cI aS bx at0 ln sc wQ) (sv : List k_S) (wV : va_W) (hV : k_isV cI aV sv wV) (h4 : fd 4 = nI sv.length) : q_Ct l D tys Z yX7_saves wsX7_saves ({ frames := 1, cells := 0, slots := 0, locals := 42 } : Room) 0 0 [.ref h0] [wP, wQ, wV] (fun v0 R0 _ => v0 = none ∧ ∃ wP', k_isP cI h0 aS aZ aV aN aU aD (upd fd 4 (nI (k_sav sv (bx, at0, ln, sc)).length)) hh wP' ∧ ∃ wV', k_isV cI aV (k_sav sv (bx, at0, ln, sc)) wV' ∧ R0 = [wP', wQ, wV']) := by
  have hcI := hI
  refine q_ct (cc := cX7_saves) (maxL := 2) (ret := none) (own := RX7) (by decide) rfl hZ (Nat.le_of_ble_eq_true rfl) rfl ?_
  intro p9 e9 R s9 m9 args below meth c9 A Q C B
  have hts := C.2.2.2.2.1
  have hinX7 : ∀ w ∈ u_ws RX7 TX7 16, w ∈ wsX7_saves := by decide +kernel
  have f51 := hts (.fieldLink RX7 51 "SortCasesModel" "savedMany" "I") (by decide +kernel)
  have f16 := hts (.fieldLink RX7 16 "SortCasesModel" "saved" "[I") (by decide +kernel)
  have f7 := hts (.fieldLink RX7 7 "SortCasesModel" "s" "[I") (by decide +kernel)
  refine q_eqL (L' := [(0, .ref h0)]) rfl ?_
  obtain ⟨hat1, hok1, hlok1, f1, hm1, rfl⟩ := hQ
  have hll1 := hlok1.1
  have hQo1 : k_isQ cI aS bx at0 ln sc [(aS, .inl (cI, 350, .inl f1))] := ⟨hat1, hok1, hlok1, f1, hm1, rfl⟩
  obtain ⟨hsl2, fv2, hvr2, rfl⟩ := hV
  have hVo2 : k_isV cI aV sv [(aV, .inl (cI, 2100, .inl fv2))] := ⟨hsl2, fv2, hvr2, rfl⟩
  have hWr1 : k_isW cI aV fv2 [(aV, .inl (cI, 2100, .inl fv2))] := rfl
  refine q_aload_n C dX7_saves_0 1 0 rfl rfl ?_
  obtain rfl := hP
  have hPo3 : k_isP cI h0 aS aZ aV aN aU aD fd hh [(h0, .inr (6, [.int (fd 0), .ref aS, .ref aZ, .ref aV, .int (fd 4), .ref aN, .int (fd 6), .ref aU, .int (fd 8), .int (fd 9), .int (fd 10), .ref aD, .int (fd 12), .int (fd 13), .int (fd 14), .long hh]))] := rfl
  refine q_get (k := 0) (j := 0) (f := 4) C hinX7 f51 (fun _ h => h) (by decide) rfl dX7_saves_1 4 rfl rfl rfl rfl ?_
  refine q_eqs (st' := [.int (nI sv.length)]) (by rw [h4]) ?_
  refine q_bipush (v := nI 6) C dX7_saves_4 6 rfl (by decide) ?_
  refine q_icmp_ne C dX7_saves_6 9 50 rfl (by decide) (nI_eq (by omega) (by omega)) (fun h6 => ?_) (fun h6 => ?_)
  · refine q_iconst (v := nI 0) C dX7_saves_50 51 rfl (by decide) ?_
    refine q_istore_n C dX7_saves_51 52 rfl [(1, .int (nI 0)), (0, .ref h0)] (by decide) rfl ?_
    have lp2 : ∀ (kk : Nat) (j : Nat) (g2 : Nat → Int32), 350 - j < kk → ∀ (hj : j ≤ 350), ∀ (hga : ∀ q, q < 350 * sv.length → g2 q = fv2 q), ∀ (hgb : ∀ q, q < j → g2 (350 * sv.length + q) = f1 q), q_V p9 l e9 R s9 m9 args below meth c9 D A 2 Q 0 0 52 [(1, .int (nI j)), (0, .ref h0)] [] [[(h0, .inr (6, [.int (fd 0), .ref aS, .ref aZ, .ref aV, .int (fd 4), .ref aN, .int (fd 6), .ref aU, .int (fd 8), .int (fd 9), .int (fd 10), .ref aD, .int (fd 12), .int (fd 13), .int (fd 14), .long hh]))], [(aS, .inl (cI, 350, .inl f1))], [(aV, .inl (cI, 2100, .inl g2))]] := by
      intro kk
      induction kk with
      | zero => intro j g2 hkk; exact absurd hkk (Nat.not_lt_zero _)
      | succ kk ih_lp2 =>
        intro j g2 hkk hj hga hgb
        refine q_iload_n C dX7_saves_52 53 0 rfl rfl ?_
        refine q_sipush (v := nI 350) C dX7_saves_53 56 rfl (by decide) ?_
        refine q_icmp_ge C dX7_saves_56 59 86 rfl (by decide) (nI_leI (by omega) (by omega)) (fun h56 => ?_) (fun h56 => ?_)
        · refine q_aload_n C dX7_saves_86 87 1 rfl rfl ?_
          refine q_dup C dX7_saves_87 88 rfl rfl ?_
          refine q_get (k := 0) (j := 0) (f := 4) C hinX7 f51 (fun _ h => h) (by decide) rfl dX7_saves_88 91 rfl rfl rfl rfl ?_
          refine q_eqs (st' := [.int (nI sv.length), .ref h0]) (by rw [h4]) ?_
          refine q_iconst (v := nI 1) C dX7_saves_91 92 rfl (by decide) ?_
          refine q_iadd (v := nI (sv.length + 1)) C dX7_saves_92 93 rfl (q_nadd (by omega)) ?_
          refine q_put (k := 0) (j := 0) (f := 4) C hinX7 tyX7 tyX7_ok nmX7 f51 (fun _ h => h) (by decide) rfl rfl (tyX7_ok 4 (by decide)) rfl rfl dX7_saves_93 96 rfl rfl rfl (Nat.le_of_ble_eq_true rfl) [[(h0, .inr (6, [.int (fd 0), .ref aS, .ref aZ, .ref aV, .int (nI (sv.length + 1)), .ref aN, .int (fd 6), .ref aU, .int (fd 8), .int (fd 9), .int (fd 10), .ref aD, .int (fd 12), .int (fd 13), .int (fd 14), .long hh]))], [(aS, .inl (cI, 350, .inl f1))], [(aV, .inl (cI, 2100, .inl g2))]] rfl ?_
          have hPp4 : k_isP cI h0 aS aZ aV aN aU aD (upd fd 4 (nI (sv.length + 1))) hh [(h0, .inr (6, [.int (fd 0), .ref aS, .ref aZ, .ref aV, .int (nI (sv.length + 1)), .ref aN, .int (fd 6), .ref aU, .int (fd 8), .int (fd 9), .int (fd 10), .ref aD, .int (fd 12), .int (fd 13), .int (fd 14), .long hh]))] := rfl
          have hVe2 : k_isV cI aV (k_sav sv (bx, at0, ln, sc)) [(aV, .inl (cI, 2100, .inl g2))] := ⟨by first | (rw [k_sav_6 (by omega)]; omega) | (rw [k_sav_n (by omega)]; omega), _, k_VR_n hvr2 (by omega) ⟨hat1, hok1, hlok1⟩ hm1 (fun y hy => hga y hy) (fun y hy => hgb y (by omega)), rfl⟩
          have hPe2 : k_isP cI h0 aS aZ aV aN aU aD (upd fd 4 (nI (k_sav sv (bx, at0, ln, sc)).length)) hh [(h0, .inr (6, [.int (fd 0), .ref aS, .ref aZ, .ref aV, .int (nI (sv.length + 1)), .ref aN, .int (fd 6), .ref aU, .int (fd 8), .int (fd 9), .int (fd 10), .ref aD, .int (fd 12), .int (fd 13), .int (fd 14), .long hh]))] := by rw [k_sav_n (by omega)]; exact rfl
          exact q_vret C B dX7_saves_96 rfl rfl (fun t0 ht0 => ⟨rfl, _, hPe2, _, hVe2, by first | rfl | simp⟩)
        · refine q_aload_n C dX7_saves_59 60 1 rfl rfl ?_
          refine q_get (k := 0) (j := 0) (f := 3) C hinX7 f16 (fun _ h => h) (by decide) rfl dX7_saves_60 63 rfl rfl rfl rfl ?_
          refine q_sipush (v := nI 350) C dX7_saves_63 66 rfl (by decide) ?_
          refine q_aload_n C dX7_saves_66 67 1 rfl rfl ?_
          refine q_get (k := 0) (j := 0) (f := 4) C hinX7 f51 (fun _ h => h) (by decide) rfl dX7_saves_67 70 rfl rfl rfl rfl ?_
          refine q_eqs (st' := [.int (nI sv.length), .int (nI 350), .ref aV]) (by rw [h4]) ?_
          refine q_imul (v := nI (350 * sv.length)) C dX7_saves_70 71 rfl (q_nmul (by omega)) ?_
          refine q_iload_n C dX7_saves_71 72 0 rfl rfl ?_
          refine q_iadd (v := nI (350 * sv.length + j)) C dX7_saves_72 73 rfl (q_nadd (by omega)) ?_
          refine q_aload_n C dX7_saves_73 74 1 rfl rfl ?_
          refine q_get (k := 0) (j := 0) (f := 1) C hinX7 f7 (fun _ h => h) (by decide) rfl dX7_saves_74 77 rfl rfl rfl rfl ?_
          refine q_iload_n C dX7_saves_77 78 0 rfl rfl ?_
          refine q_iald (k := 1) (j := 0) (v := f1 j) C dX7_saves_78 79 rfl rfl rfl hcI j rfl (by omega) (by decide) rfl ?_
          refine q_iast (k := 2) (j := 0) C dX7_saves_79 80 rfl rfl rfl hcI (350 * sv.length + j) rfl (by omega) (by decide) [[(h0, .inr (6, [.int (fd 0), .ref aS, .ref aZ, .ref aV, .int (fd 4), .ref aN, .int (fd 6), .ref aU, .int (fd 8), .int (fd 9), .int (fd 10), .ref aD, .int (fd 12), .int (fd 13), .int (fd 14), .long hh]))], [(aS, .inl (cI, 350, .inl f1))], [(aV, .inl (cI, 2100, .inl (upd g2 (350 * sv.length + j) (f1 j))))]] rfl ?_
          have hWs5 : k_isW cI aV (upd g2 (350 * sv.length + j) (f1 j)) [(aV, .inl (cI, 2100, .inl (upd g2 (350 * sv.length + j) (f1 j))))] := rfl
          refine q_iinc (v := nI (j + 1)) C dX7_saves_80 83 0 rfl rfl (q_ninc1 (by omega)) [(1, .int (nI (j + 1))), (0, .ref h0)] (by decide) rfl ?_
          refine q_goto C dX7_saves_83 52 (by decide) ?_
          refine q_sub (L' := [(1, .int (nI (j + 1))), (0, .ref h0)]) [0, 1] rfl ?_
          exact ih_lp2 (j + 1) (upd g2 (350 * sv.length + j) (f1 j)) (by omega) (by omega) (fun q hq => by rw [pk_un (by omega)]; exact hga q hq) (fun q hq => (Decidable.em (q = j)).elim (fun e => by subst e; first | exact pk_us | rw [show 350 * (sv.length - 1) + q = 350 * sv.length + q - 350 by omega, pk_us]) (fun e => by rw [pk_un (by omega)]; exact hgb q (by omega)))
    refine q_sub (L' := [(1, .int (nI 0)), (0, .ref h0)]) [0, 1] rfl ?_
    exact lp2 _ 0 fv2 (Nat.lt_succ_self _) (by omega) (fun q _ => rfl) (fun q hq => absurd hq (Nat.not_lt_zero q))
  · refine q_iconst (v := nI 0) C dX7_saves_9 10 rfl (by decide) ?_
    refine q_istore_n C dX7_saves_10 11 rfl [(1, .int (nI 0)), (0, .ref h0)] (by decide) rfl ?_
    have lp : ∀ (kk : Nat) (i : Nat) (g : Nat → Int32), 1750 - i < kk → ∀ (hi : i ≤ 1750), ∀ (hg : ∀ q, g q = if q < i then fv2 (q + 350) else fv2 q), q_V p9 l e9 R s9 m9 args below meth c9 D A 2 Q 0 0 11 [(1, .int (nI i)), (0, .ref h0)] [] [[(h0, .inr (6, [.int (fd 0), .ref aS, .ref aZ, .ref aV, .int (fd 4), .ref aN, .int (fd 6), .ref aU, .int (fd 8), .int (fd 9), .int (fd 10), .ref aD, .int (fd 12), .int (fd 13), .int (fd 14), .long hh]))], [(aS, .inl (cI, 350, .inl f1))], [(aV, .inl (cI, 2100, .inl g))]] := by
      intro kk
      induction kk with
      | zero => intro i g hkk; exact absurd hkk (Nat.not_lt_zero _)
      | succ kk ih_lp =>
        intro i g hkk hi hg
        refine q_iload_n C dX7_saves_11 12 0 rfl rfl ?_
        refine q_sipush (v := nI 1750) C dX7_saves_12 15 rfl (by decide) ?_
        refine q_icmp_ge C dX7_saves_15 18 40 rfl (by decide) (nI_leI (by omega) (by omega)) (fun h15 => ?_) (fun h15 => ?_)
        · refine q_aload_n C dX7_saves_40 41 1 rfl rfl ?_
          refine q_dup C dX7_saves_41 42 rfl rfl ?_
          refine q_get (k := 0) (j := 0) (f := 4) C hinX7 f51 (fun _ h => h) (by decide) rfl dX7_saves_42 45 rfl rfl rfl rfl ?_
          refine q_eqs (st' := [.int (nI sv.length), .ref h0]) (by rw [h4]) ?_
          refine q_iconst (v := nI 1) C dX7_saves_45 46 rfl (by decide) ?_
          refine q_isub (v := nI (sv.length - 1)) C dX7_saves_46 47 rfl (q_nsub (by omega) (by omega)) ?_
          refine q_put (k := 0) (j := 0) (f := 4) C hinX7 tyX7 tyX7_ok nmX7 f51 (fun _ h => h) (by decide) rfl rfl (tyX7_ok 4 (by decide)) rfl rfl dX7_saves_47 50 rfl rfl rfl (Nat.le_of_ble_eq_true rfl) [[(h0, .inr (6, [.int (fd 0), .ref aS, .ref aZ, .ref aV, .int (nI (sv.length - 1)), .ref aN, .int (fd 6), .ref aU, .int (fd 8), .int (fd 9), .int (fd 10), .ref aD, .int (fd 12), .int (fd 13), .int (fd 14), .long hh]))], [(aS, .inl (cI, 350, .inl f1))], [(aV, .inl (cI, 2100, .inl g))]] rfl ?_
          have hPp6 : k_isP cI h0 aS aZ aV aN aU aD (upd fd 4 (nI (sv.length - 1))) hh [(h0, .inr (6, [.int (fd 0), .ref aS, .ref aZ, .ref aV, .int (nI (sv.length - 1)), .ref aN, .int (fd 6), .ref aU, .int (fd 8), .int (fd 9), .int (fd 10), .ref aD, .int (fd 12), .int (fd 13), .int (fd 14), .long hh]))] := rfl
          refine q_iconst (v := nI 0) C dX7_saves_50 51 rfl (by decide) ?_
          refine q_istore_n C dX7_saves_51 52 rfl [(1, .int (nI 0)), (0, .ref h0)] (by decide) rfl ?_
          have lp2 : ∀ (kk : Nat) (j : Nat) (g2 : Nat → Int32), 350 - j < kk → ∀ (hj : j ≤ 350), ∀ (hga : ∀ q, q < 350 * (sv.length - 1) → g2 q = g q), ∀ (hgb : ∀ q, q < j → g2 (350 * (sv.length - 1) + q) = f1 q), q_V p9 l e9 R s9 m9 args below meth c9 D A 2 Q 0 0 52 [(1, .int (nI j)), (0, .ref h0)] [] [[(h0, .inr (6, [.int (fd 0), .ref aS, .ref aZ, .ref aV, .int (nI (sv.length - 1)), .ref aN, .int (fd 6), .ref aU, .int (fd 8), .int (fd 9), .int (fd 10), .ref aD, .int (fd 12), .int (fd 13), .int (fd 14), .long hh]))], [(aS, .inl (cI, 350, .inl f1))], [(aV, .inl (cI, 2100, .inl g2))]] := by
            intro kk
            induction kk with
            | zero => intro j g2 hkk; exact absurd hkk (Nat.not_lt_zero _)
            | succ kk ih_lp2 =>
              intro j g2 hkk hj hga hgb
              refine q_iload_n C dX7_saves_52 53 0 rfl rfl ?_
              refine q_sipush (v := nI 350) C dX7_saves_53 56 rfl (by decide) ?_
              refine q_icmp_ge C dX7_saves_56 59 86 rfl (by decide) (nI_leI (by omega) (by omega)) (fun h56 => ?_) (fun h56 => ?_)
              · refine q_aload_n C dX7_saves_86 87 1 rfl rfl ?_
                refine q_dup C dX7_saves_87 88 rfl rfl ?_
                refine q_get (k := 0) (j := 0) (f := 4) C hinX7 f51 (fun _ h => h) (by decide) rfl dX7_saves_88 91 rfl rfl rfl rfl ?_
                refine q_iconst (v := nI 1) C dX7_saves_91 92 rfl (by decide) ?_
                refine q_iadd (v := nI sv.length) C dX7_saves_92 93 rfl (q_nadd (by omega)) ?_
                refine q_put (k := 0) (j := 0) (f := 4) C hinX7 tyX7 tyX7_ok nmX7 f51 (fun _ h => h) (by decide) rfl rfl (tyX7_ok 4 (by decide)) rfl rfl dX7_saves_93 96 rfl rfl rfl (Nat.le_of_ble_eq_true rfl) [[(h0, .inr (6, [.int (fd 0), .ref aS, .ref aZ, .ref aV, .int (nI sv.length), .ref aN, .int (fd 6), .ref aU, .int (fd 8), .int (fd 9), .int (fd 10), .ref aD, .int (fd 12), .int (fd 13), .int (fd 14), .long hh]))], [(aS, .inl (cI, 350, .inl f1))], [(aV, .inl (cI, 2100, .inl g2))]] rfl ?_
                have hPp7 : k_isP cI h0 aS aZ aV aN aU aD (upd (upd fd 4 (nI (sv.length - 1))) 4 (nI sv.length)) hh [(h0, .inr (6, [.int (fd 0), .ref aS, .ref aZ, .ref aV, .int (nI sv.length), .ref aN, .int (fd 6), .ref aU, .int (fd 8), .int (fd 9), .int (fd 10), .ref aD, .int (fd 12), .int (fd 13), .int (fd 14), .long hh]))] := rfl
                have hVe3 : k_isV cI aV (k_sav sv (bx, at0, ln, sc)) [(aV, .inl (cI, 2100, .inl g2))] := ⟨by first | (rw [k_sav_6 (by omega)]; omega) | (rw [k_sav_n (by omega)]; omega), _, k_VR_6 hvr2 (by omega) ⟨hat1, hok1, hlok1⟩ hm1 (fun y hy => by rw [hga y (by omega), hg y, if_pos (by omega)]) (fun y hy => hgb y (by omega)), rfl⟩
                have hPe3 : k_isP cI h0 aS aZ aV aN aU aD (upd fd 4 (nI (k_sav sv (bx, at0, ln, sc)).length)) hh [(h0, .inr (6, [.int (fd 0), .ref aS, .ref aZ, .ref aV, .int (nI sv.length), .ref aN, .int (fd 6), .ref aU, .int (fd 8), .int (fd 9), .int (fd 10), .ref aD, .int (fd 12), .int (fd 13), .int (fd 14), .long hh]))] := by rw [k_sav_6 (by omega), Nat.sub_add_cancel (by omega)]; exact rfl
                exact q_vret C B dX7_saves_96 rfl rfl (fun t0 ht0 => ⟨rfl, _, hPe3, _, hVe3, by first | rfl | simp⟩)
              · refine q_aload_n C dX7_saves_59 60 1 rfl rfl ?_
                refine q_get (k := 0) (j := 0) (f := 3) C hinX7 f16 (fun _ h => h) (by decide) rfl dX7_saves_60 63 rfl rfl rfl rfl ?_
                refine q_sipush (v := nI 350) C dX7_saves_63 66 rfl (by decide) ?_
                refine q_aload_n C dX7_saves_66 67 1 rfl rfl ?_
                refine q_get (k := 0) (j := 0) (f := 4) C hinX7 f51 (fun _ h => h) (by decide) rfl dX7_saves_67 70 rfl rfl rfl rfl ?_
                refine q_imul (v := nI (350 * sv.length - 350)) C dX7_saves_70 71 rfl (q_nmul (by omega)) ?_
                refine q_iload_n C dX7_saves_71 72 0 rfl rfl ?_
                refine q_iadd (v := nI (350 * sv.length + j - 350)) C dX7_saves_72 73 rfl (q_nadd (by omega)) ?_
                refine q_aload_n C dX7_saves_73 74 1 rfl rfl ?_
                refine q_get (k := 0) (j := 0) (f := 1) C hinX7 f7 (fun _ h => h) (by decide) rfl dX7_saves_74 77 rfl rfl rfl rfl ?_
                refine q_iload_n C dX7_saves_77 78 0 rfl rfl ?_
                refine q_iald (k := 1) (j := 0) (v := f1 j) C dX7_saves_78 79 rfl rfl rfl hcI j rfl (by omega) (by decide) rfl ?_
                refine q_iast (k := 2) (j := 0) C dX7_saves_79 80 rfl rfl rfl hcI (350 * sv.length + j - 350) rfl (by omega) (by decide) [[(h0, .inr (6, [.int (fd 0), .ref aS, .ref aZ, .ref aV, .int (nI (sv.length - 1)), .ref aN, .int (fd 6), .ref aU, .int (fd 8), .int (fd 9), .int (fd 10), .ref aD, .int (fd 12), .int (fd 13), .int (fd 14), .long hh]))], [(aS, .inl (cI, 350, .inl f1))], [(aV, .inl (cI, 2100, .inl (upd g2 (350 * sv.length + j - 350) (f1 j))))]] rfl ?_
                have hWs8 : k_isW cI aV (upd g2 (350 * sv.length + j - 350) (f1 j)) [(aV, .inl (cI, 2100, .inl (upd g2 (350 * sv.length + j - 350) (f1 j))))] := rfl
                refine q_iinc (v := nI (j + 1)) C dX7_saves_80 83 0 rfl rfl (q_ninc1 (by omega)) [(1, .int (nI (j + 1))), (0, .ref h0)] (by decide) rfl ?_
                refine q_goto C dX7_saves_83 52 (by decide) ?_
                refine q_sub (L' := [(1, .int (nI (j + 1))), (0, .ref h0)]) [0, 1] rfl ?_
                exact ih_lp2 (j + 1) (upd g2 (350 * sv.length + j - 350) (f1 j)) (by omega) (by omega) (fun q hq => by rw [pk_un (by omega)]; exact hga q hq) (fun q hq => (Decidable.em (q = j)).elim (fun e => by subst e; first | exact pk_us | rw [show 350 * (sv.length - 1) + q = 350 * sv.length + q - 350 by omega, pk_us]) (fun e => by rw [pk_un (by omega)]; exact hgb q (by omega)))
          refine q_sub (L' := [(1, .int (nI 0)), (0, .ref h0)]) [0, 1] rfl ?_
          exact lp2 _ 0 g (Nat.lt_succ_self _) (by omega) (fun q _ => rfl) (fun q hq => absurd hq (Nat.not_lt_zero q))
        · refine q_aload_n C dX7_saves_18 19 1 rfl rfl ?_
          refine q_get (k := 0) (j := 0) (f := 3) C hinX7 f16 (fun _ h => h) (by decide) rfl dX7_saves_19 22 rfl rfl rfl rfl ?_
          refine q_iload_n C dX7_saves_22 23 0 rfl rfl ?_
          refine q_aload_n C dX7_saves_23 24 1 rfl rfl ?_
          refine q_get (k := 0) (j := 0) (f := 3) C hinX7 f16 (fun _ h => h) (by decide) rfl dX7_saves_24 27 rfl rfl rfl rfl ?_
          refine q_iload_n C dX7_saves_27 28 0 rfl rfl ?_
          refine q_sipush (v := nI 350) C dX7_saves_28 31 rfl (by decide) ?_
          refine q_iadd (v := nI (i + 350)) C dX7_saves_31 32 rfl (q_nadd (by omega)) ?_
          refine q_iald (k := 2) (j := 0) (v := g (i + 350)) C dX7_saves_32 33 rfl rfl rfl hcI (i + 350) rfl (by omega) (by decide) rfl ?_
          refine q_iast (k := 2) (j := 0) C dX7_saves_33 34 rfl rfl rfl hcI i rfl (by omega) (by decide) [[(h0, .inr (6, [.int (fd 0), .ref aS, .ref aZ, .ref aV, .int (fd 4), .ref aN, .int (fd 6), .ref aU, .int (fd 8), .int (fd 9), .int (fd 10), .ref aD, .int (fd 12), .int (fd 13), .int (fd 14), .long hh]))], [(aS, .inl (cI, 350, .inl f1))], [(aV, .inl (cI, 2100, .inl (upd g i (g (i + 350)))))]] rfl ?_
          have hWs9 : k_isW cI aV (upd g i (g (i + 350))) [(aV, .inl (cI, 2100, .inl (upd g i (g (i + 350)))))] := rfl
          refine q_iinc (v := nI (i + 1)) C dX7_saves_34 37 0 rfl rfl (q_ninc1 (by omega)) [(1, .int (nI (i + 1))), (0, .ref h0)] (by decide) rfl ?_
          refine q_goto C dX7_saves_37 11 (by decide) ?_
          refine q_sub (L' := [(1, .int (nI (i + 1))), (0, .ref h0)]) [0, 1] rfl ?_
          exact ih_lp (i + 1) (upd g i (g (i + 350))) (by omega) (by omega) (fun q => (Decidable.em (q = i)).elim (fun e => by subst e; rw [pk_us, if_pos (by omega), hg, if_neg (by omega)]) (fun e => by rw [pk_un e, hg]; exact (Decidable.em (q < i)).elim (fun e2 => by rw [if_pos e2, if_pos (by omega)]) (fun e2 => by rw [if_neg e2, if_neg (by omega)])))
    refine q_sub (L' := [(1, .int (nI 0)), (0, .ref h0)]) [0, 1] rfl ?_
    exact lp _ 0 fv2 (Nat.lt_succ_self _) (by omega) (fun q => by rw [if_neg (by omega)])
