set_option maxHeartbeats 800000 in
set_option maxRecDepth 100000 in
theorem c_L_holds (l : Launch) {D : va_G} {tys : List (ClassId × FieldType)} {Z : (Nat → Prop) → State → Heap → Prop} (hZ : q_St Z) {cI : ClassId} (hI : tys[0]? = some (cI, .int)) (hN : q_Ns Z) {cG : ClassId} (hG : tys[1]? = some (cG, .object "SortCases$State")) (h0 : Nat) (aO : Nat) (aY : Nat) (aN : Nat) (hsn : Int32) (aT : Nat) (aK : Nat) (wX : va_W) (hX : k_isX cI h0 aO aY aN hsn aT aK wX) (aB : Nat) (aL : Nat) (aS : Nat) (sc : Nat → Int32) (wO : va_W) (hO : k_isO cI aO aB aL aS sc wO) (wA : va_W) (hA : k_isA cI aS sc wA) (bx : k_Bx) (at0 : Nat) (wB : va_W) (hB : k_isB cI aB bx at0 wB) (ln : List (Nat × Nat)) (wL : va_W) (hL : k_isL cI aL ln wL) (sv : List k_S) (wH : va_W) (hH : k_isH cG cI aY sv wH) (kbx : k_Bx) (kat0 : Nat) (kw : va_W) (kh : k_isB cI aK kbx kat0 kw) (aR : Nat) (z : Nat) (wAr : va_W) (hAr : k_isAr cI aR z wAr) (hIv : k_Iv (bx, at0, ln, sc)) : q_Ct l D tys Z yL_holds wsL_holds ({ frames := 8, cells := 0, slots := 0, locals := 252 } : Room) 0 0 [.ref h0, .ref aR] [wX, wO, wA, wB, wL, wH, kw, wAr] (fun v0 R0 _ => v0 = some (.int (q_b true)) ∧ ∃ kw', k_isB cI aK ((k_bs bx at0 (-1) (k_T bx at0)).1) ((k_bs bx at0 (-1) (k_T bx at0)).2) kw' ∧ ∃ wAr', k_isAr cI aR 1 wAr' ∧ R0 = [wX, wO, wA, wB, wL, wH, kw', wAr']) := by
  have hcI := hI
  have hcG := hG
  refine q_ct (cc := cL_holds) (maxL := 10) (ret := (some .boolean)) (own := RL) (by decide) rfl hZ (Nat.le_of_ble_eq_true rfl) rfl ?_
  intro p9 e9 R s9 m9 args below meth c9 A Q C B
  have hts := C.2.2.2.2.1
  refine q_eqL (L' := [(0, .ref h0), (1, .ref aR)]) rfl ?_
  obtain ⟨g0, rfl⟩ := hAr
  have hll := hL.1.1
  have hok := hB.2.1
  have hat := hB.1
  have hcs := k_Cv_cs (S := (bx, at0, ln, sc)) hIv.2
  have hws := k_Cv_ws (S := (bx, at0, ln, sc)) hok hIv.2
  have hty := k_Cv_ty (S := (bx, at0, ln, sc)) hok hIv.2
  refine q_iconst (v := nI 0) C dL_holds_0 1 rfl (by decide) ?_
  refine q_istore_n C dL_holds_1 2 rfl [(2, .int (nI 0)), (0, .ref h0), (1, .ref aR)] (by decide) rfl ?_
  have lp1 : ∀ (kk : Nat) (i : Nat) (g : Nat → Int32), 12 - i < kk → ∀ (hi : i ≤ 12), ∀ (hg : ∀ x, x < i → g x = nI 0), q_V p9 l e9 R s9 m9 args below meth c9 D A 10 Q 0 0 2 [(2, .int (nI i)), (1, .ref aR), (0, .ref h0)] [] [wX, wO, wA, wB, wL, wH, kw, [(aR, .inl (cI, 12, .inl g))]] := by
    intro kk
    induction kk with
    | zero => intro i g hkk; exact absurd hkk (Nat.not_lt_zero _)
    | succ kk ih_lp1 =>
      intro i g hkk hi hg
      refine q_iload_n C dL_holds_2 3 0 rfl rfl ?_
      refine q_bipush (v := nI 12) C dL_holds_3 5 rfl (by decide) ?_
      refine q_icmp_ge C dL_holds_5 8 18 rfl (by decide) (nI_leI (by omega) (by omega)) (fun h5 => ?_) (fun h5 => ?_)
      · refine q_iconst (v := nI 0) C dL_holds_18 19 rfl (by decide) ?_
        refine q_istore_n C dL_holds_19 20 rfl [(2, .int (nI 0)), (1, .ref aR), (0, .ref h0)] (by decide) rfl ?_
        refine q_iconst (v := nI 0) C dL_holds_20 21 rfl (by decide) ?_
        refine q_istore_n C dL_holds_21 22 rfl [(3, .int (nI 0)), (2, .int (nI 0)), (1, .ref aR), (0, .ref h0)] (by decide) rfl ?_
        refine q_iconst (v := nI 0) C dL_holds_22 23 rfl (by decide) ?_
        refine q_istore C dL_holds_23 25 rfl [(4, .int (nI 0)), (3, .int (nI 0)), (2, .int (nI 0)), (1, .ref aR), (0, .ref h0)] (by decide) rfl ?_
        refine q_iconst (v := nI 0) C dL_holds_25 26 rfl (by decide) ?_
        refine q_istore C dL_holds_26 28 rfl [(5, .int (nI 0)), (4, .int (nI 0)), (3, .int (nI 0)), (2, .int (nI 0)), (1, .ref aR), (0, .ref h0)] (by decide) rfl ?_
        have lp2 : ∀ (kk : Nat) (b : Nat) (wr : Nat) (el : Nat) (al : Nat) (g2 : Nat → Int32), 12 - b < kk → ∀ (hib : b ≤ 12), ∀ (hwr : wr = k_sum (fun c => k_wi bx c) b), ∀ (hel : el = k_sum (fun x => k_st bx x) b), ∀ (hal : al = k_sum (fun c => (bx c).length) b), ∀ (hg2 : ∀ x, x < 12 → g2 x = nI (k_sum (fun c => (bx c).count x) b)), q_V p9 l e9 R s9 m9 args below meth c9 D A 10 Q 0 0 28 [(5, .int (nI b)), (4, .int (nI al)), (3, .int (nI el)), (2, .int (nI wr)), (1, .ref aR), (0, .ref h0)] [] [wX, wO, wA, wB, wL, wH, kw, [(aR, .inl (cI, 12, .inl g2))]] := by
          intro kk
          induction kk with
          | zero => intro b wr el al g2 hkk; exact absurd hkk (Nat.not_lt_zero _)
          | succ kk ih_lp2 =>
            intro b wr el al g2 hkk hib hwr hel hal hg2
            refine q_iload C dL_holds_28 30 0 rfl rfl ?_
            refine q_bipush (v := nI 12) C dL_holds_30 32 rfl (by decide) ?_
            refine q_icmp_ge C dL_holds_32 35 211 rfl (by decide) (nI_leI (by omega) (by omega)) (fun h32 => ?_) (fun h32 => ?_)
            · refine q_iconst (v := nI 0) C dL_holds_211 212 rfl (by decide) ?_
              refine q_istore C dL_holds_212 214 rfl [(5, .int (nI 0)), (4, .int (nI al)), (3, .int (nI el)), (2, .int (nI wr)), (1, .ref aR), (0, .ref h0)] (by decide) rfl ?_
              refine q_iconst (v := nI 0) C dL_holds_214 215 rfl (by decide) ?_
              refine q_istore C dL_holds_215 217 rfl [(6, .int (nI 0)), (5, .int (nI 0)), (4, .int (nI al)), (3, .int (nI el)), (2, .int (nI wr)), (1, .ref aR), (0, .ref h0)] (by decide) rfl ?_
              refine q_iconst (v := nI 0) C dL_holds_217 218 rfl (by decide) ?_
              refine q_istore C dL_holds_218 220 rfl [(7, .int (nI 0)), (6, .int (nI 0)), (5, .int (nI 0)), (4, .int (nI al)), (3, .int (nI el)), (2, .int (nI wr)), (1, .ref aR), (0, .ref h0)] (by decide) rfl ?_
              have lp4 : ∀ (kk : Nat) (k : Nat) (er : Nat) (wd : Nat) (g4 : Nat → Int32), ln.length - k < kk → ∀ (hik4 : k ≤ ln.length), ∀ (her : er = k_cnt (fun i => decide (¬ (k_la ln i).1 = (k_la ln i).2)) k), ∀ (hwd : wd = k_sum (fun i => k_wd (k_la ln i).1 + 1) k - 1), ∀ (hg4 : ∀ x, x < 12 → g4 x = nI (k_tot bx x + k_cnt (fun i => (k_la ln i).1 == x) k)), q_V p9 l e9 R s9 m9 args below meth c9 D A 10 Q 0 0 220 [(7, .int (nI k)), (6, .int (nI wd)), (5, .int (nI er)), (4, .int (nI al)), (3, .int (nI el)), (2, .int (nI wr)), (1, .ref aR), (0, .ref h0)] [] [wX, wO, wA, wB, wL, wH, kw, [(aR, .inl (cI, 12, .inl g4))]] := by
                intro kk
                induction kk with
                | zero => intro k er wd g4 hkk; exact absurd hkk (Nat.not_lt_zero _)
                | succ kk ih_lp4 =>
                  intro k er wd g4 hkk hik4 her hwd hg4
                  refine q_iload C dL_holds_220 222 0 rfl rfl ?_
                  refine q_aload_n C dL_holds_222 223 7 rfl rfl ?_
                  refine q_iconst (v := nI 0) C dL_holds_223 224 rfl (by decide) ?_
                  refine q_callV (k := 0) (ci := 5) (n := 1) (rest := [.int (nI k)]) (Rr := [kw, [(aR, .inl (cI, 12, .inl g4))]]) C rfl (k_isX_recv hX) rfl (c_X6_count_h l hZ hI hN hG h0 aO aY aN hsn aT aK wX hX aB aL aS sc wO hO wA hA bx at0 wB hB ln wL hL sv wH hH 0 (by omega) hcs hws) gL_holds_X6_count rfl rfl rfl (by decide +kernel) B.1 ⟨Nat.le_of_ble_eq_true rfl, Nat.le_of_ble_eq_true rfl⟩ rfl rfl (Nat.le_of_ble_eq_true rfl) dL_holds_224 ⟨(Nat.le_of_ble_eq_true rfl), (Nat.le_of_ble_eq_true rfl)⟩ [0, 1, 2, 3, 4, 5] [6, 7] (by decide : ([0, 1, 2, 3, 4, 5] ++ ([6, 7] : List Nat)).Perm (List.range 8)) rfl rfl 227 rfl (fun v0 R0 t0 ht0 hp0 => ?_)
                  obtain ⟨rfl, rfl⟩ := hp0
                  refine q_eqs (st' := [.int (k_tc bx at0 ln sc sv.length 0), .int (nI k)]) rfl ?_
                  refine q_eqR (Rs' := [wX, wO, wA, wB, wL, wH, kw, [(aR, .inl (cI, 12, .inl g4))]]) rfl ?_
                  refine q_eqs (st' := [.int (nI ln.length), .int (nI k)]) (by rw [show k_tc bx at0 ln sc sv.length 0 = nI ln.length from rfl]) ?_
                  refine q_icmp_ge C dL_holds_227 230 366 rfl (by decide) (nI_leI (by omega) (by omega)) (fun h227 => ?_) (fun h227 => ?_)
                  · have hk4 : k = ln.length := by omega
                    have hg6 : ∀ x, x < 12 → g4 x = nI 6 := fun x hx => by
                      have h9 := hIv.2 x hx
                      rw [← k_cl_count] at h9
                      rw [hg4 x hx, hk4]
                      exact congrArg nI h9
                    refine q_iconst (v := nI 0) C dL_holds_366 367 rfl (by decide) ?_
                    refine q_istore C dL_holds_367 369 rfl [(7, .int (nI 0)), (6, .int (nI wd)), (5, .int (nI er)), (4, .int (nI al)), (3, .int (nI el)), (2, .int (nI wr)), (1, .ref aR), (0, .ref h0)] (by decide) rfl ?_
                    have lp5 : ∀ (kk : Nat) (i5 : Nat), 12 - i5 < kk → ∀ (hi5 : i5 ≤ 12), q_V p9 l e9 R s9 m9 args below meth c9 D A 10 Q 0 0 369 [(7, .int (nI i5)), (6, .int (nI wd)), (5, .int (nI er)), (4, .int (nI al)), (3, .int (nI el)), (2, .int (nI wr)), (1, .ref aR), (0, .ref h0)] [] [wX, wO, wA, wB, wL, wH, kw, [(aR, .inl (cI, 12, .inl g4))]] := by
                      intro kk
                      induction kk with
                      | zero => intro i5 hkk; exact absurd hkk (Nat.not_lt_zero _)
                      | succ kk ih_lp5 =>
                        intro i5 hkk hi5
                        refine q_iload C dL_holds_369 371 0 rfl rfl ?_
                        refine q_bipush (v := nI 12) C dL_holds_371 373 rfl (by decide) ?_
                        refine q_icmp_ge C dL_holds_373 376 393 rfl (by decide) (nI_leI (by omega) (by omega)) (fun h373 => ?_) (fun h373 => ?_)
                        · have hb12 : b = 12 := by omega
                          have hal9 : al = k_ty bx := by rw [hal, hb12]; rfl
                          have hwr9 : wr = k_wr bx := by rw [hwr, hb12]; rfl
                          have hel9 : el = k_wr bx := by rw [hel, hb12]; exact k_st_wr hok
                          have her9 : er = k_er ln := by rw [her, hk4]; rfl
                          have hwd9 : wd = k_np ln - 1 := by rw [hwd, hk4]; rfl
                          have h72 : k_ty bx + ln.length = 72 := k_ty72 (S := (bx, at0, ln, sc)) hok hL.1 hIv.2
                          have hwt9 := k_wr_ty bx
                          have hnp9 := k_np_le ln
                          have hel40 : k_er ln ≤ ln.length := k_cnt_le _ _
                          have hbm9 := k_bm_wr (hd := -1) hok hat (k_T bx at0)
                          refine q_aload_n C dL_holds_393 394 7 rfl rfl ?_
                          refine q_iconst (v := nI 3) C dL_holds_394 395 rfl (by decide) ?_
                          refine q_callV (k := 0) (ci := 5) (n := 1) (rest := []) (Rr := [kw, [(aR, .inl (cI, 12, .inl g4))]]) C rfl (k_isX_recv hX) rfl (c_X6_count_h l hZ hI hN hG h0 aO aY aN hsn aT aK wX hX aB aL aS sc wO hO wA hA bx at0 wB hB ln wL hL sv wH hH 3 (by omega) hcs hws) gL_holds_X6_count rfl rfl rfl (by decide +kernel) B.1 ⟨Nat.le_of_ble_eq_true rfl, Nat.le_of_ble_eq_true rfl⟩ rfl rfl (Nat.le_of_ble_eq_true rfl) dL_holds_395 ⟨(Nat.le_of_ble_eq_true rfl), (Nat.le_of_ble_eq_true rfl)⟩ [0, 1, 2, 3, 4, 5] [6, 7] (by decide : ([0, 1, 2, 3, 4, 5] ++ ([6, 7] : List Nat)).Perm (List.range 8)) rfl rfl 398 rfl (fun v0 R0 t0 ht0 hp0 => ?_)
                          obtain ⟨rfl, rfl⟩ := hp0
                          refine q_eqs (st' := [.int (k_tc bx at0 ln sc sv.length 3)]) rfl ?_
                          refine q_eqR (Rs' := [wX, wO, wA, wB, wL, wH, kw, [(aR, .inl (cI, 12, .inl g4))]]) rfl ?_
                          refine q_eqs (st' := [.int (nI (k_ty bx))]) (by rw [show k_tc bx at0 ln sc sv.length 3 = nI (k_ty bx) from rfl]) ?_
                          refine q_iload C dL_holds_398 400 3 rfl rfl ?_
                          refine q_icmp_ne C dL_holds_400 403 461 rfl (by decide) (nI_eq (by omega) (by omega)) (fun h400 => False.elim (by first | omega | simp_all)) (fun h400 => ?_)
                          refine q_iload C dL_holds_403 405 3 rfl rfl ?_
                          refine q_aload_n C dL_holds_405 406 7 rfl rfl ?_
                          refine q_iconst (v := nI 0) C dL_holds_406 407 rfl (by decide) ?_
                          refine q_callV (k := 0) (ci := 5) (n := 1) (rest := [.int (nI al)]) (Rr := [kw, [(aR, .inl (cI, 12, .inl g4))]]) C rfl (k_isX_recv hX) rfl (c_X6_count_h l hZ hI hN hG h0 aO aY aN hsn aT aK wX hX aB aL aS sc wO hO wA hA bx at0 wB hB ln wL hL sv wH hH 0 (by omega) hcs hws) gL_holds_X6_count rfl rfl rfl (by decide +kernel) B.1 ⟨Nat.le_of_ble_eq_true rfl, Nat.le_of_ble_eq_true rfl⟩ rfl rfl (Nat.le_of_ble_eq_true rfl) dL_holds_407 ⟨(Nat.le_of_ble_eq_true rfl), (Nat.le_of_ble_eq_true rfl)⟩ [0, 1, 2, 3, 4, 5] [6, 7] (by decide : ([0, 1, 2, 3, 4, 5] ++ ([6, 7] : List Nat)).Perm (List.range 8)) rfl rfl 410 rfl (fun v0 R0 t0 ht0 hp0 => ?_)
                          obtain ⟨rfl, rfl⟩ := hp0
                          refine q_eqs (st' := [.int (k_tc bx at0 ln sc sv.length 0), .int (nI al)]) rfl ?_
                          refine q_eqR (Rs' := [wX, wO, wA, wB, wL, wH, kw, [(aR, .inl (cI, 12, .inl g4))]]) rfl ?_
                          refine q_eqs (st' := [.int (nI ln.length), .int (nI al)]) (by rw [show k_tc bx at0 ln sc sv.length 0 = nI ln.length from rfl]) ?_
                          refine q_iadd (v := nI (al + ln.length)) C dL_holds_410 411 rfl (q_nadd (by omega)) ?_
                          refine q_bipush (v := nI 72) C dL_holds_411 413 rfl (by decide) ?_
                          refine q_icmp_ne C dL_holds_413 416 461 rfl (by decide) (nI_eq (by omega) (by omega)) (fun h413 => False.elim (by first | omega | simp_all)) (fun h413 => ?_)
                          refine q_aload_n C dL_holds_416 417 7 rfl rfl ?_
                          refine q_iconst (v := nI 4) C dL_holds_417 418 rfl (by decide) ?_
                          refine q_callV (k := 0) (ci := 5) (n := 1) (rest := []) (Rr := [kw, [(aR, .inl (cI, 12, .inl g4))]]) C rfl (k_isX_recv hX) rfl (c_X6_count_h l hZ hI hN hG h0 aO aY aN hsn aT aK wX hX aB aL aS sc wO hO wA hA bx at0 wB hB ln wL hL sv wH hH 4 (by omega) hcs hws) gL_holds_X6_count rfl rfl rfl (by decide +kernel) B.1 ⟨Nat.le_of_ble_eq_true rfl, Nat.le_of_ble_eq_true rfl⟩ rfl rfl (Nat.le_of_ble_eq_true rfl) dL_holds_418 ⟨(Nat.le_of_ble_eq_true rfl), (Nat.le_of_ble_eq_true rfl)⟩ [0, 1, 2, 3, 4, 5] [6, 7] (by decide : ([0, 1, 2, 3, 4, 5] ++ ([6, 7] : List Nat)).Perm (List.range 8)) rfl rfl 421 rfl (fun v0 R0 t0 ht0 hp0 => ?_)
                          obtain ⟨rfl, rfl⟩ := hp0
                          refine q_eqs (st' := [.int (k_tc bx at0 ln sc sv.length 4)]) rfl ?_
                          refine q_eqR (Rs' := [wX, wO, wA, wB, wL, wH, kw, [(aR, .inl (cI, 12, .inl g4))]]) rfl ?_
                          refine q_eqs (st' := [.int (nI (k_wr bx))]) (by rw [show k_tc bx at0 ln sc sv.length 4 = nI (k_wr bx) from rfl]) ?_
                          refine q_iload_n C dL_holds_421 422 5 rfl rfl ?_
                          refine q_icmp_ne C dL_holds_422 425 461 rfl (by decide) (nI_eq (by omega) (by omega)) (fun h422 => False.elim (by first | omega | simp_all)) (fun h422 => ?_)
                          refine q_aload_n C dL_holds_425 426 7 rfl rfl ?_
                          refine q_iconst (v := nI 5) C dL_holds_426 427 rfl (by decide) ?_
                          refine q_callV (k := 0) (ci := 5) (n := 1) (rest := []) (Rr := [kw, [(aR, .inl (cI, 12, .inl g4))]]) C rfl (k_isX_recv hX) rfl (c_X6_count_h l hZ hI hN hG h0 aO aY aN hsn aT aK wX hX aB aL aS sc wO hO wA hA bx at0 wB hB ln wL hL sv wH hH 5 (by omega) hcs hws) gL_holds_X6_count rfl rfl rfl (by decide +kernel) B.1 ⟨Nat.le_of_ble_eq_true rfl, Nat.le_of_ble_eq_true rfl⟩ rfl rfl (Nat.le_of_ble_eq_true rfl) dL_holds_427 ⟨(Nat.le_of_ble_eq_true rfl), (Nat.le_of_ble_eq_true rfl)⟩ [0, 1, 2, 3, 4, 5] [6, 7] (by decide : ([0, 1, 2, 3, 4, 5] ++ ([6, 7] : List Nat)).Perm (List.range 8)) rfl rfl 430 rfl (fun v0 R0 t0 ht0 hp0 => ?_)
                          obtain ⟨rfl, rfl⟩ := hp0
                          refine q_eqs (st' := [.int (k_tc bx at0 ln sc sv.length 5)]) rfl ?_
                          refine q_eqR (Rs' := [wX, wO, wA, wB, wL, wH, kw, [(aR, .inl (cI, 12, .inl g4))]]) rfl ?_
                          refine q_eqs (st' := [.int (nI (k_wr bx))]) (by rw [show k_tc bx at0 ln sc sv.length 5 = nI (k_wr bx) from rfl]) ?_
                          refine q_iload_n C dL_holds_430 431 5 rfl rfl ?_
                          refine q_icmp_ne C dL_holds_431 434 461 rfl (by decide) (nI_eq (by omega) (by omega)) (fun h431 => False.elim (by first | omega | simp_all)) (fun h431 => ?_)
                          refine q_iload_n C dL_holds_434 435 4 rfl rfl ?_
                          refine q_iload_n C dL_holds_435 436 5 rfl rfl ?_
                          refine q_icmp_ne C dL_holds_436 439 461 rfl (by decide) (nI_eq (by omega) (by omega)) (fun h436 => False.elim (by first | omega | simp_all)) (fun h436 => ?_)
                          refine q_aload_n C dL_holds_439 440 7 rfl rfl ?_
                          refine q_bipush (v := nI 6) C dL_holds_440 442 rfl (by decide) ?_
                          refine q_callV (k := 0) (ci := 5) (n := 1) (rest := []) (Rr := [kw, [(aR, .inl (cI, 12, .inl g4))]]) C rfl (k_isX_recv hX) rfl (c_X6_count_h l hZ hI hN hG h0 aO aY aN hsn aT aK wX hX aB aL aS sc wO hO wA hA bx at0 wB hB ln wL hL sv wH hH 6 (by omega) hcs hws) gL_holds_X6_count rfl rfl rfl (by decide +kernel) B.1 ⟨Nat.le_of_ble_eq_true rfl, Nat.le_of_ble_eq_true rfl⟩ rfl rfl (Nat.le_of_ble_eq_true rfl) dL_holds_442 ⟨(Nat.le_of_ble_eq_true rfl), (Nat.le_of_ble_eq_true rfl)⟩ [0, 1, 2, 3, 4, 5] [6, 7] (by decide : ([0, 1, 2, 3, 4, 5] ++ ([6, 7] : List Nat)).Perm (List.range 8)) rfl rfl 445 rfl (fun v0 R0 t0 ht0 hp0 => ?_)
                          obtain ⟨rfl, rfl⟩ := hp0
                          refine q_eqs (st' := [.int (k_tc bx at0 ln sc sv.length 6)]) rfl ?_
                          refine q_eqR (Rs' := [wX, wO, wA, wB, wL, wH, kw, [(aR, .inl (cI, 12, .inl g4))]]) rfl ?_
                          by_cases hwz : k_wr bx = 0
                          · refine q_eqs (st' := [.int (nI 1)]) (by rw [show k_tc bx at0 ln sc sv.length 6 = nI 1 from by show q_b (decide (k_wr bx = 0)) = nI 1; rw [decide_eq_true hwz]; rfl]) ?_
                            refine q_iload_n C dL_holds_445 446 5 rfl rfl ?_
                            refine q_if_ne C dL_holds_446 449 453 rfl (by decide) (q_eq0 (by omega)) (fun h446 => False.elim (by first | omega | simp_all)) (fun h446 => ?_)
                            refine q_iconst (v := nI 1) C dL_holds_449 450 rfl (by decide) ?_
                            refine q_goto C dL_holds_450 454 (by decide) ?_
                            refine q_icmp_ne C dL_holds_454 457 461 rfl (by decide) (nI_eq (by omega) (by omega)) (fun h454 => False.elim (by first | omega | simp_all)) (fun h454 => ?_)
                            refine q_iconst (v := nI 1) C dL_holds_457 458 rfl (by decide) ?_
                            refine q_goto C dL_holds_458 462 (by decide) ?_
                            refine q_istore C dL_holds_462 464 rfl [(7, .int (nI 1)), (6, .int (nI wd)), (5, .int (nI er)), (4, .int (nI al)), (3, .int (nI el)), (2, .int (nI wr)), (1, .ref aR), (0, .ref h0)] (by decide) rfl ?_
                            refine q_iload C dL_holds_464 466 0 rfl rfl ?_
                            refine q_if_eq C dL_holds_466 469 501 rfl (by decide) (q_eq0 (by omega)) (fun h466 => False.elim (by first | omega | simp_all)) (fun h466 => ?_)
                            refine q_aload_n C dL_holds_469 470 7 rfl rfl ?_
                            refine q_iconst (v := nI 2) C dL_holds_470 471 rfl (by decide) ?_
                            refine q_callV (k := 0) (ci := 5) (n := 1) (rest := []) (Rr := [kw, [(aR, .inl (cI, 12, .inl g4))]]) C rfl (k_isX_recv hX) rfl (c_X6_count_h l hZ hI hN hG h0 aO aY aN hsn aT aK wX hX aB aL aS sc wO hO wA hA bx at0 wB hB ln wL hL sv wH hH 2 (by omega) hcs hws) gL_holds_X6_count rfl rfl rfl (by decide +kernel) B.1 ⟨Nat.le_of_ble_eq_true rfl, Nat.le_of_ble_eq_true rfl⟩ rfl rfl (Nat.le_of_ble_eq_true rfl) dL_holds_471 ⟨(Nat.le_of_ble_eq_true rfl), (Nat.le_of_ble_eq_true rfl)⟩ [0, 1, 2, 3, 4, 5] [6, 7] (by decide : ([0, 1, 2, 3, 4, 5] ++ ([6, 7] : List Nat)).Perm (List.range 8)) rfl rfl 474 rfl (fun v0 R0 t0 ht0 hp0 => ?_)
                            obtain ⟨rfl, rfl⟩ := hp0
                            refine q_eqs (st' := [.int (k_tc bx at0 ln sc sv.length 2)]) rfl ?_
                            refine q_eqR (Rs' := [wX, wO, wA, wB, wL, wH, kw, [(aR, .inl (cI, 12, .inl g4))]]) rfl ?_
                            refine q_eqs (st' := [.int (nI (k_er ln))]) (by rw [show k_tc bx at0 ln sc sv.length 2 = nI (k_er ln) from rfl]) ?_
                            refine q_iload C dL_holds_474 476 2 rfl rfl ?_
                            refine q_icmp_ne C dL_holds_476 479 501 rfl (by decide) (nI_eq (by omega) (by omega)) (fun h476 => False.elim (by first | omega | simp_all)) (fun h476 => ?_)
                            refine q_aload_n C dL_holds_479 480 7 rfl rfl ?_
                            refine q_iconst (v := nI 1) C dL_holds_480 481 rfl (by decide) ?_
                            refine q_callV (k := 0) (ci := 5) (n := 1) (rest := []) (Rr := [kw, [(aR, .inl (cI, 12, .inl g4))]]) C rfl (k_isX_recv hX) rfl (c_X6_count_h l hZ hI hN hG h0 aO aY aN hsn aT aK wX hX aB aL aS sc wO hO wA hA bx at0 wB hB ln wL hL sv wH hH 1 (by omega) hcs hws) gL_holds_X6_count rfl rfl rfl (by decide +kernel) B.1 ⟨Nat.le_of_ble_eq_true rfl, Nat.le_of_ble_eq_true rfl⟩ rfl rfl (Nat.le_of_ble_eq_true rfl) dL_holds_481 ⟨(Nat.le_of_ble_eq_true rfl), (Nat.le_of_ble_eq_true rfl)⟩ [0, 1, 2, 3, 4, 5] [6, 7] (by decide : ([0, 1, 2, 3, 4, 5] ++ ([6, 7] : List Nat)).Perm (List.range 8)) rfl rfl 484 rfl (fun v0 R0 t0 ht0 hp0 => ?_)
                            obtain ⟨rfl, rfl⟩ := hp0
                            refine q_eqs (st' := [.int (k_tc bx at0 ln sc sv.length 1)]) rfl ?_
                            refine q_eqR (Rs' := [wX, wO, wA, wB, wL, wH, kw, [(aR, .inl (cI, 12, .inl g4))]]) rfl ?_
                            refine q_eqs (st' := [.int (nI (k_np ln - 1))]) (by rw [show k_tc bx at0 ln sc sv.length 1 = nI (k_np ln - 1) from rfl]) ?_
                            refine q_iload C dL_holds_484 486 1 rfl rfl ?_
                            refine q_icmp_ne C dL_holds_486 489 501 rfl (by decide) (nI_eq (by omega) (by omega)) (fun h486 => False.elim (by first | omega | simp_all)) (fun h486 => ?_)
                            refine q_aload_n C dL_holds_489 490 7 rfl rfl ?_
                            refine q_callV (k := 0) (ci := 5) (n := 0) (rest := []) (Rr := [wL, wH, [(aR, .inl (cI, 12, .inl g4))]]) C rfl (k_isX_recv hX) rfl (c_X6_wrongThen l hZ hI hN h0 aO aY aN hsn aT aK wX hX aB aL aS sc wO hO wA hA bx at0 wB hB kbx kat0 kw kh hty) gL_holds_X6_wrongThen rfl rfl rfl (by decide +kernel) B.1 ⟨Nat.le_of_ble_eq_true rfl, Nat.le_of_ble_eq_true rfl⟩ rfl rfl (Nat.le_of_ble_eq_true rfl) dL_holds_490 ⟨(Nat.le_of_ble_eq_true rfl), (Nat.le_of_ble_eq_true rfl)⟩ [0, 1, 2, 3, 6] [4, 5, 7] (by decide : ([0, 1, 2, 3, 6] ++ ([4, 5, 7] : List Nat)).Perm (List.range 8)) rfl rfl 493 rfl (fun v0 R0 t0 ht0 hp0 => ?_)
                            obtain ⟨rfl, wk_490, hwk_490, rfl⟩ := hp0
                            refine q_eqs (st' := [.int (nI (k_wr (k_bs bx at0 (-1) (k_T bx at0)).1))]) rfl ?_
                            refine q_reord [0, 1, 2, 3, 5, 6, 4, 7] (by decide : ([0, 1, 2, 3, 5, 6, 4, 7] : List Nat).Perm (List.range 8)) (Rs' := [wX, wO, wA, wB, wL, wH, wk_490, [(aR, .inl (cI, 12, .inl g4))]]) rfl rfl ?_
                            refine q_iload_n C dL_holds_493 494 5 rfl rfl ?_
                            refine q_icmp_gt C dL_holds_494 497 501 rfl (by decide) (nI_ltI (by omega) (by omega)) (fun h494 => False.elim (by first | omega | simp_all)) (fun h494 => ?_)
                            refine q_iconst (v := nI 1) C dL_holds_497 498 rfl (by decide) ?_
                            refine q_goto C dL_holds_498 502 (by decide) ?_
                            exact q_zret C B (by decide) dL_holds_502 rfl rfl (fun t0 ht0 => ⟨rfl, _, hwk_490, _, ⟨_, rfl⟩, rfl⟩)
                          · refine q_eqs (st' := [.int (nI 0)]) (by rw [show k_tc bx at0 ln sc sv.length 6 = nI 0 from by show q_b (decide (k_wr bx = 0)) = nI 0; rw [decide_eq_false hwz]; rfl]) ?_
                            refine q_iload_n C dL_holds_445 446 5 rfl rfl ?_
                            refine q_if_ne C dL_holds_446 449 453 rfl (by decide) (q_eq0 (by omega)) (fun h446 => ?_) (fun h446 => False.elim (by first | omega | simp_all))
                            refine q_iconst (v := nI 0) C dL_holds_453 454 rfl (by decide) ?_
                            refine q_icmp_ne C dL_holds_454 457 461 rfl (by decide) (nI_eq (by omega) (by omega)) (fun h454 => False.elim (by first | omega | simp_all)) (fun h454 => ?_)
                            refine q_iconst (v := nI 1) C dL_holds_457 458 rfl (by decide) ?_
                            refine q_goto C dL_holds_458 462 (by decide) ?_
                            refine q_istore C dL_holds_462 464 rfl [(7, .int (nI 1)), (6, .int (nI wd)), (5, .int (nI er)), (4, .int (nI al)), (3, .int (nI el)), (2, .int (nI wr)), (1, .ref aR), (0, .ref h0)] (by decide) rfl ?_
                            refine q_iload C dL_holds_464 466 0 rfl rfl ?_
                            refine q_if_eq C dL_holds_466 469 501 rfl (by decide) (q_eq0 (by omega)) (fun h466 => False.elim (by first | omega | simp_all)) (fun h466 => ?_)
                            refine q_aload_n C dL_holds_469 470 7 rfl rfl ?_
                            refine q_iconst (v := nI 2) C dL_holds_470 471 rfl (by decide) ?_
                            refine q_callV (k := 0) (ci := 5) (n := 1) (rest := []) (Rr := [kw, [(aR, .inl (cI, 12, .inl g4))]]) C rfl (k_isX_recv hX) rfl (c_X6_count_h l hZ hI hN hG h0 aO aY aN hsn aT aK wX hX aB aL aS sc wO hO wA hA bx at0 wB hB ln wL hL sv wH hH 2 (by omega) hcs hws) gL_holds_X6_count rfl rfl rfl (by decide +kernel) B.1 ⟨Nat.le_of_ble_eq_true rfl, Nat.le_of_ble_eq_true rfl⟩ rfl rfl (Nat.le_of_ble_eq_true rfl) dL_holds_471 ⟨(Nat.le_of_ble_eq_true rfl), (Nat.le_of_ble_eq_true rfl)⟩ [0, 1, 2, 3, 4, 5] [6, 7] (by decide : ([0, 1, 2, 3, 4, 5] ++ ([6, 7] : List Nat)).Perm (List.range 8)) rfl rfl 474 rfl (fun v0 R0 t0 ht0 hp0 => ?_)
                            obtain ⟨rfl, rfl⟩ := hp0
                            refine q_eqs (st' := [.int (k_tc bx at0 ln sc sv.length 2)]) rfl ?_
                            refine q_eqR (Rs' := [wX, wO, wA, wB, wL, wH, kw, [(aR, .inl (cI, 12, .inl g4))]]) rfl ?_
                            refine q_eqs (st' := [.int (nI (k_er ln))]) (by rw [show k_tc bx at0 ln sc sv.length 2 = nI (k_er ln) from rfl]) ?_
                            refine q_iload C dL_holds_474 476 2 rfl rfl ?_
                            refine q_icmp_ne C dL_holds_476 479 501 rfl (by decide) (nI_eq (by omega) (by omega)) (fun h476 => False.elim (by first | omega | simp_all)) (fun h476 => ?_)
                            refine q_aload_n C dL_holds_479 480 7 rfl rfl ?_
                            refine q_iconst (v := nI 1) C dL_holds_480 481 rfl (by decide) ?_
                            refine q_callV (k := 0) (ci := 5) (n := 1) (rest := []) (Rr := [kw, [(aR, .inl (cI, 12, .inl g4))]]) C rfl (k_isX_recv hX) rfl (c_X6_count_h l hZ hI hN hG h0 aO aY aN hsn aT aK wX hX aB aL aS sc wO hO wA hA bx at0 wB hB ln wL hL sv wH hH 1 (by omega) hcs hws) gL_holds_X6_count rfl rfl rfl (by decide +kernel) B.1 ⟨Nat.le_of_ble_eq_true rfl, Nat.le_of_ble_eq_true rfl⟩ rfl rfl (Nat.le_of_ble_eq_true rfl) dL_holds_481 ⟨(Nat.le_of_ble_eq_true rfl), (Nat.le_of_ble_eq_true rfl)⟩ [0, 1, 2, 3, 4, 5] [6, 7] (by decide : ([0, 1, 2, 3, 4, 5] ++ ([6, 7] : List Nat)).Perm (List.range 8)) rfl rfl 484 rfl (fun v0 R0 t0 ht0 hp0 => ?_)
                            obtain ⟨rfl, rfl⟩ := hp0
                            refine q_eqs (st' := [.int (k_tc bx at0 ln sc sv.length 1)]) rfl ?_
                            refine q_eqR (Rs' := [wX, wO, wA, wB, wL, wH, kw, [(aR, .inl (cI, 12, .inl g4))]]) rfl ?_
                            refine q_eqs (st' := [.int (nI (k_np ln - 1))]) (by rw [show k_tc bx at0 ln sc sv.length 1 = nI (k_np ln - 1) from rfl]) ?_
                            refine q_iload C dL_holds_484 486 1 rfl rfl ?_
                            refine q_icmp_ne C dL_holds_486 489 501 rfl (by decide) (nI_eq (by omega) (by omega)) (fun h486 => False.elim (by first | omega | simp_all)) (fun h486 => ?_)
                            refine q_aload_n C dL_holds_489 490 7 rfl rfl ?_
                            refine q_callV (k := 0) (ci := 5) (n := 0) (rest := []) (Rr := [wL, wH, [(aR, .inl (cI, 12, .inl g4))]]) C rfl (k_isX_recv hX) rfl (c_X6_wrongThen l hZ hI hN h0 aO aY aN hsn aT aK wX hX aB aL aS sc wO hO wA hA bx at0 wB hB kbx kat0 kw kh hty) gL_holds_X6_wrongThen rfl rfl rfl (by decide +kernel) B.1 ⟨Nat.le_of_ble_eq_true rfl, Nat.le_of_ble_eq_true rfl⟩ rfl rfl (Nat.le_of_ble_eq_true rfl) dL_holds_490 ⟨(Nat.le_of_ble_eq_true rfl), (Nat.le_of_ble_eq_true rfl)⟩ [0, 1, 2, 3, 6] [4, 5, 7] (by decide : ([0, 1, 2, 3, 6] ++ ([4, 5, 7] : List Nat)).Perm (List.range 8)) rfl rfl 493 rfl (fun v0 R0 t0 ht0 hp0 => ?_)
                            obtain ⟨rfl, wk_490, hwk_490, rfl⟩ := hp0
                            refine q_eqs (st' := [.int (nI (k_wr (k_bs bx at0 (-1) (k_T bx at0)).1))]) rfl ?_
                            refine q_reord [0, 1, 2, 3, 5, 6, 4, 7] (by decide : ([0, 1, 2, 3, 5, 6, 4, 7] : List Nat).Perm (List.range 8)) (Rs' := [wX, wO, wA, wB, wL, wH, wk_490, [(aR, .inl (cI, 12, .inl g4))]]) rfl rfl ?_
                            refine q_iload_n C dL_holds_493 494 5 rfl rfl ?_
                            refine q_icmp_gt C dL_holds_494 497 501 rfl (by decide) (nI_ltI (by omega) (by omega)) (fun h494 => False.elim (by first | omega | simp_all)) (fun h494 => ?_)
                            refine q_iconst (v := nI 1) C dL_holds_497 498 rfl (by decide) ?_
                            refine q_goto C dL_holds_498 502 (by decide) ?_
                            exact q_zret C B (by decide) dL_holds_502 rfl rfl (fun t0 ht0 => ⟨rfl, _, hwk_490, _, ⟨_, rfl⟩, rfl⟩)
                        · refine q_aload_n C dL_holds_376 377 6 rfl rfl ?_
                          refine q_iload C dL_holds_377 379 0 rfl rfl ?_
                          refine q_iald (k := 7) (j := 0) (v := nI 6) C dL_holds_379 380 rfl rfl rfl hcI i5 rfl (by omega) (by decide) (hg6 i5 (by omega)) ?_
                          refine q_bipush (v := nI 6) C dL_holds_380 382 rfl (by decide) ?_
                          refine q_icmp_eq C dL_holds_382 385 387 rfl (by decide) (nI_eq (by omega) (by omega)) (fun h382 => ?_) (fun h382 => False.elim (by first | omega | simp_all))
                          refine q_iinc (v := nI (i5 + 1)) C dL_holds_387 390 0 rfl rfl (q_ninc1 (by omega)) [(7, .int (nI (i5 + 1))), (6, .int (nI wd)), (5, .int (nI er)), (4, .int (nI al)), (3, .int (nI el)), (2, .int (nI wr)), (1, .ref aR), (0, .ref h0)] (by decide) rfl ?_
                          refine q_goto C dL_holds_390 369 (by decide) ?_
                          refine q_sub (L' := [(7, .int (nI (i5 + 1))), (6, .int (nI wd)), (5, .int (nI er)), (4, .int (nI al)), (3, .int (nI el)), (2, .int (nI wr)), (1, .ref aR), (0, .ref h0)]) [0, 1, 2, 3, 4, 5, 6, 7] rfl ?_
                          exact ih_lp5 (i5 + 1) (by omega) (by omega)
                    refine q_sub (L' := [(7, .int (nI 0)), (6, .int (nI wd)), (5, .int (nI er)), (4, .int (nI al)), (3, .int (nI el)), (2, .int (nI wr)), (1, .ref aR), (0, .ref h0)]) [0, 1, 2, 3, 4, 5, 6, 7] rfl ?_
                    exact lp5 _ 0 (Nat.lt_succ_self _) (by omega)
                  · have hla := k_la_lt hL.1 (i := k) (by omega)
                    obtain ⟨y, hy⟩ : ∃ y, (k_la ln k).1 = y := ⟨_, rfl⟩
                    obtain ⟨z, hz⟩ : ∃ z, (k_la ln k).2 = z := ⟨_, rfl⟩
                    rw [hy, hz] at hla
                    have hyl := hla.1
                    have hwcl := k_wc_le bx ln sc k
                    refine q_aload_n C dL_holds_230 231 6 rfl rfl ?_
                    refine q_aload_n C dL_holds_231 232 7 rfl rfl ?_
                    refine q_iload C dL_holds_232 234 0 rfl rfl ?_
                    refine q_iconst (v := nI 0) C dL_holds_234 235 rfl (by decide) ?_
                    refine q_callV (k := 0) (ci := 5) (n := 2) (rest := [.ref aR]) (Rr := [wH, kw, [(aR, .inl (cI, 12, .inl g4))]]) C rfl (k_isX_recv hX) rfl (c_X6_line_c l hZ hI hN h0 aO aY aN hsn aT aK wX hX aB aL aS sc wO hO wA hA bx at0 wB hB ln wL hL k 0 (by omega) (k_has_of hL.1.1 (by omega)) (by omega)) gL_holds_X6_line rfl rfl rfl (by decide +kernel) B.1 ⟨Nat.le_of_ble_eq_true rfl, Nat.le_of_ble_eq_true rfl⟩ rfl rfl (Nat.le_of_ble_eq_true rfl) dL_holds_235 ⟨(Nat.le_of_ble_eq_true rfl), (Nat.le_of_ble_eq_true rfl)⟩ [0, 1, 2, 3, 4] [5, 6, 7] (by decide : ([0, 1, 2, 3, 4] ++ ([5, 6, 7] : List Nat)).Perm (List.range 8)) rfl rfl 238 rfl (fun v0 R0 t0 ht0 hp0 => ?_)
                    obtain ⟨rfl, rfl⟩ := hp0
                    refine q_eqs (st' := [.int (k_tp bx ln sc k 0), .ref aR]) rfl ?_
                    refine q_eqR (Rs' := [wX, wO, wA, wB, wL, wH, kw, [(aR, .inl (cI, 12, .inl g4))]]) rfl ?_
                    refine q_eqs (st' := [.int (nI y), .ref aR]) (by rw [show k_tp bx ln sc k 0 = nI y from congrArg nI hy]) ?_
                    refine q_dup2 C dL_holds_238 239 rfl rfl rfl ?_
                    refine q_iald (k := 7) (j := 0) (v := nI (k_tot bx y + k_cnt (fun i => (k_la ln i).1 == y) k)) C dL_holds_239 240 rfl rfl rfl hcI y rfl (by omega) (by decide) (hg4 y hyl) ?_
                    refine q_iconst (v := nI 1) C dL_holds_240 241 rfl (by decide) ?_
                    refine q_iadd (v := nI (k_tot bx y + k_cnt (fun i => (k_la ln i).1 == y) k + 1)) C dL_holds_241 242 rfl (q_nadd (by omega)) ?_
                    refine q_iast (k := 7) (j := 0) C dL_holds_242 243 rfl rfl rfl hcI y rfl (by omega) (by decide) [wX, wO, wA, wB, wL, wH, kw, [(aR, .inl (cI, 12, .inl (upd g4 y (nI (k_tot bx y + k_cnt (fun i => (k_la ln i).1 == y) k + 1)))))]] rfl ?_
                    refine q_iload C dL_holds_243 245 2 rfl rfl ?_
                    refine q_aload_n C dL_holds_245 246 7 rfl rfl ?_
                    refine q_iload C dL_holds_246 248 0 rfl rfl ?_
                    refine q_iconst (v := nI 2) C dL_holds_248 249 rfl (by decide) ?_
                    refine q_callV (k := 0) (ci := 5) (n := 2) (rest := [.int (nI er)]) (Rr := [wH, kw, [(aR, .inl (cI, 12, .inl (upd g4 y (nI (k_tot bx y + k_cnt (fun i => (k_la ln i).1 == y) k + 1)))))]]) C rfl (k_isX_recv hX) rfl (c_X6_line_c l hZ hI hN h0 aO aY aN hsn aT aK wX hX aB aL aS sc wO hO wA hA bx at0 wB hB ln wL hL k 2 (by omega) (k_has_of hL.1.1 (by omega)) (by omega)) gL_holds_X6_line rfl rfl rfl (by decide +kernel) B.1 ⟨Nat.le_of_ble_eq_true rfl, Nat.le_of_ble_eq_true rfl⟩ rfl rfl (Nat.le_of_ble_eq_true rfl) dL_holds_249 ⟨(Nat.le_of_ble_eq_true rfl), (Nat.le_of_ble_eq_true rfl)⟩ [0, 1, 2, 3, 4] [5, 6, 7] (by decide : ([0, 1, 2, 3, 4] ++ ([5, 6, 7] : List Nat)).Perm (List.range 8)) rfl rfl 252 rfl (fun v0 R0 t0 ht0 hp0 => ?_)
                    obtain ⟨rfl, rfl⟩ := hp0
                    refine q_eqs (st' := [.int (k_tp bx ln sc k 2), .int (nI er)]) rfl ?_
                    refine q_eqR (Rs' := [wX, wO, wA, wB, wL, wH, kw, [(aR, .inl (cI, 12, .inl (upd g4 y (nI (k_tot bx y + k_cnt (fun i => (k_la ln i).1 == y) k + 1)))))]]) rfl ?_
                    by_cases hyz : y = z
                    · refine q_eqs (st' := [.int (nI 0), .int (nI er)]) (by rw [show k_tp bx ln sc k 2 = nI 0 from by show q_b (decide (¬ (k_la ln k).1 = (k_la ln k).2)) = nI 0; rw [hy, hz, decide_eq_false (fun h => h hyz)]; rfl]) ?_
                      refine q_iadd (v := nI er) C dL_holds_252 253 rfl (q_nadd (by omega)) ?_
                      refine q_istore C dL_holds_253 255 rfl [(5, .int (nI er)), (7, .int (nI k)), (6, .int (nI wd)), (4, .int (nI al)), (3, .int (nI el)), (2, .int (nI wr)), (1, .ref aR), (0, .ref h0)] (by decide) rfl ?_
                      refine q_iload C dL_holds_255 257 2 rfl rfl ?_
                      refine q_aload_n C dL_holds_257 258 7 rfl rfl ?_
                      refine q_aload_n C dL_holds_258 259 7 rfl rfl ?_
                      refine q_iload C dL_holds_259 261 1 rfl rfl ?_
                      refine q_iconst (v := nI 0) C dL_holds_261 262 rfl (by decide) ?_
                      refine q_callV (k := 0) (ci := 5) (n := 2) (rest := [.ref h0, .int (nI wd)]) (Rr := [wH, kw, [(aR, .inl (cI, 12, .inl (upd g4 y (nI (k_tot bx y + k_cnt (fun i => (k_la ln i).1 == y) k + 1)))))]]) C rfl (k_isX_recv hX) rfl (c_X6_line_c l hZ hI hN h0 aO aY aN hsn aT aK wX hX aB aL aS sc wO hO wA hA bx at0 wB hB ln wL hL k 0 (by omega) (k_has_of hL.1.1 (by omega)) (by omega)) gL_holds_X6_line rfl rfl rfl (by decide +kernel) B.1 ⟨Nat.le_of_ble_eq_true rfl, Nat.le_of_ble_eq_true rfl⟩ rfl rfl (Nat.le_of_ble_eq_true rfl) dL_holds_262 ⟨(Nat.le_of_ble_eq_true rfl), (Nat.le_of_ble_eq_true rfl)⟩ [0, 1, 2, 3, 4] [5, 6, 7] (by decide : ([0, 1, 2, 3, 4] ++ ([5, 6, 7] : List Nat)).Perm (List.range 8)) rfl rfl 265 rfl (fun v0 R0 t0 ht0 hp0 => ?_)
                      obtain ⟨rfl, rfl⟩ := hp0
                      refine q_eqs (st' := [.int (k_tp bx ln sc k 0), .ref h0, .int (nI wd)]) rfl ?_
                      refine q_eqR (Rs' := [wX, wO, wA, wB, wL, wH, kw, [(aR, .inl (cI, 12, .inl (upd g4 y (nI (k_tot bx y + k_cnt (fun i => (k_la ln i).1 == y) k + 1)))))]]) rfl ?_
                      refine q_eqs (st' := [.int (nI y), .ref h0, .int (nI wd)]) (by rw [show k_tp bx ln sc k 0 = nI y from congrArg nI hy]) ?_
                      refine q_iconst (v := nI 3) C dL_holds_265 266 rfl (by decide) ?_
                      refine q_callV (k := 0) (ci := 5) (n := 2) (rest := [.int (nI wd)]) (Rr := [wL, wH, kw, [(aR, .inl (cI, 12, .inl (upd g4 y (nI (k_tot bx y + k_cnt (fun i => (k_la ln i).1 == y) k + 1)))))]]) C rfl (k_isX_recv hX) rfl (c_X6_box_c l hZ hI hN h0 aO aY aN hsn aT aK wX hX aB aL aS sc wO hO wA hA bx at0 wB hB y 3 (by omega) (by omega)) gL_holds_X6_box rfl rfl rfl (by decide +kernel) B.1 ⟨Nat.le_of_ble_eq_true rfl, Nat.le_of_ble_eq_true rfl⟩ rfl rfl (Nat.le_of_ble_eq_true rfl) dL_holds_266 ⟨(Nat.le_of_ble_eq_true rfl), (Nat.le_of_ble_eq_true rfl)⟩ [0, 1, 2, 3] [4, 5, 6, 7] (by decide : ([0, 1, 2, 3] ++ ([4, 5, 6, 7] : List Nat)).Perm (List.range 8)) rfl rfl 269 rfl (fun v0 R0 t0 ht0 hp0 => ?_)
                      obtain ⟨rfl, rfl⟩ := hp0
                      refine q_eqs (st' := [.int (k_tb bx at0 sc y 3), .int (nI wd)]) rfl ?_
                      refine q_eqR (Rs' := [wX, wO, wA, wB, wL, wH, kw, [(aR, .inl (cI, 12, .inl (upd g4 y (nI (k_tot bx y + k_cnt (fun i => (k_la ln i).1 == y) k + 1)))))]]) rfl ?_
                      refine q_eqs (st' := [.int (nI (k_wd y)), .int (nI wd)]) (by rw [show k_tb bx at0 sc y 3 = nI (k_wd y) from rfl]) ?_
                      refine q_iload C dL_holds_269 271 1 rfl rfl ?_
                      refine q_if_le C dL_holds_271 274 278 rfl (by decide) (q_le0 (by omega)) (fun h271 => ?_) (fun h271 => ?_)
                      · refine q_iconst (v := nI 0) C dL_holds_278 279 rfl (by decide) ?_
                        refine q_iadd (v := nI (k_wd y)) C dL_holds_279 280 rfl (q_nadd (by omega)) ?_
                        refine q_iadd (v := nI (wd + k_wd y)) C dL_holds_280 281 rfl (q_nadd (by omega)) ?_
                        refine q_istore C dL_holds_281 283 rfl [(6, .int (nI (wd + k_wd y))), (5, .int (nI er)), (7, .int (nI k)), (4, .int (nI al)), (3, .int (nI el)), (2, .int (nI wr)), (1, .ref aR), (0, .ref h0)] (by decide) rfl ?_
                        refine q_aload_n C dL_holds_283 284 7 rfl rfl ?_
                        refine q_iload C dL_holds_284 286 2 rfl rfl ?_
                        refine q_iconst (v := nI 2) C dL_holds_286 287 rfl (by decide) ?_
                        refine q_callV (k := 0) (ci := 5) (n := 2) (rest := []) (Rr := [wH, kw, [(aR, .inl (cI, 12, .inl (upd g4 y (nI (k_tot bx y + k_cnt (fun i => (k_la ln i).1 == y) k + 1)))))]]) C rfl (k_isX_recv hX) rfl (c_X6_line_c l hZ hI hN h0 aO aY aN hsn aT aK wX hX aB aL aS sc wO hO wA hA bx at0 wB hB ln wL hL k 2 (by omega) (k_has_of hL.1.1 (by omega)) (by omega)) gL_holds_X6_line rfl rfl rfl (by decide +kernel) B.1 ⟨Nat.le_of_ble_eq_true rfl, Nat.le_of_ble_eq_true rfl⟩ rfl rfl (Nat.le_of_ble_eq_true rfl) dL_holds_287 ⟨(Nat.le_of_ble_eq_true rfl), (Nat.le_of_ble_eq_true rfl)⟩ [0, 1, 2, 3, 4] [5, 6, 7] (by decide : ([0, 1, 2, 3, 4] ++ ([5, 6, 7] : List Nat)).Perm (List.range 8)) rfl rfl 290 rfl (fun v0 R0 t0 ht0 hp0 => ?_)
                        obtain ⟨rfl, rfl⟩ := hp0
                        refine q_eqs (st' := [.int (k_tp bx ln sc k 2)]) rfl ?_
                        refine q_eqR (Rs' := [wX, wO, wA, wB, wL, wH, kw, [(aR, .inl (cI, 12, .inl (upd g4 y (nI (k_tot bx y + k_cnt (fun i => (k_la ln i).1 == y) k + 1)))))]]) rfl ?_
                        refine q_eqs (st' := [.int (nI 0)]) (by rw [show k_tp bx ln sc k 2 = nI 0 from by show q_b (decide (¬ (k_la ln k).1 = (k_la ln k).2)) = nI 0; rw [hy, hz, decide_eq_false (fun h => h hyz)]; rfl]) ?_
                        refine q_iconst (v := nI 1) C dL_holds_290 291 rfl (by decide) ?_
                        refine q_icmp_ne C dL_holds_291 294 298 rfl (by decide) (nI_eq (by omega) (by omega)) (fun h291 => ?_) (fun h291 => False.elim (by first | omega | simp_all))
                        refine q_iconst (v := nI 0) C dL_holds_298 299 rfl (by decide) ?_
                        refine q_aload_n C dL_holds_299 300 7 rfl rfl ?_
                        refine q_iload C dL_holds_300 302 2 rfl rfl ?_
                        refine q_iconst (v := nI 0) C dL_holds_302 303 rfl (by decide) ?_
                        refine q_callV (k := 0) (ci := 5) (n := 2) (rest := [.int (nI 0)]) (Rr := [wH, kw, [(aR, .inl (cI, 12, .inl (upd g4 y (nI (k_tot bx y + k_cnt (fun i => (k_la ln i).1 == y) k + 1)))))]]) C rfl (k_isX_recv hX) rfl (c_X6_line_c l hZ hI hN h0 aO aY aN hsn aT aK wX hX aB aL aS sc wO hO wA hA bx at0 wB hB ln wL hL k 0 (by omega) (k_has_of hL.1.1 (by omega)) (by omega)) gL_holds_X6_line rfl rfl rfl (by decide +kernel) B.1 ⟨Nat.le_of_ble_eq_true rfl, Nat.le_of_ble_eq_true rfl⟩ rfl rfl (Nat.le_of_ble_eq_true rfl) dL_holds_303 ⟨(Nat.le_of_ble_eq_true rfl), (Nat.le_of_ble_eq_true rfl)⟩ [0, 1, 2, 3, 4] [5, 6, 7] (by decide : ([0, 1, 2, 3, 4] ++ ([5, 6, 7] : List Nat)).Perm (List.range 8)) rfl rfl 306 rfl (fun v0 R0 t0 ht0 hp0 => ?_)
                        obtain ⟨rfl, rfl⟩ := hp0
                        refine q_eqs (st' := [.int (k_tp bx ln sc k 0), .int (nI 0)]) rfl ?_
                        refine q_eqR (Rs' := [wX, wO, wA, wB, wL, wH, kw, [(aR, .inl (cI, 12, .inl (upd g4 y (nI (k_tot bx y + k_cnt (fun i => (k_la ln i).1 == y) k + 1)))))]]) rfl ?_
                        refine q_eqs (st' := [.int (nI y), .int (nI 0)]) (by rw [show k_tp bx ln sc k 0 = nI y from congrArg nI hy]) ?_
                        refine q_aload_n C dL_holds_306 307 7 rfl rfl ?_
                        refine q_iload C dL_holds_307 309 2 rfl rfl ?_
                        refine q_iconst (v := nI 1) C dL_holds_309 310 rfl (by decide) ?_
                        refine q_callV (k := 0) (ci := 5) (n := 2) (rest := [.int (nI y), .int (nI 0)]) (Rr := [wH, kw, [(aR, .inl (cI, 12, .inl (upd g4 y (nI (k_tot bx y + k_cnt (fun i => (k_la ln i).1 == y) k + 1)))))]]) C rfl (k_isX_recv hX) rfl (c_X6_line_c l hZ hI hN h0 aO aY aN hsn aT aK wX hX aB aL aS sc wO hO wA hA bx at0 wB hB ln wL hL k 1 (by omega) (k_has_of hL.1.1 (by omega)) (by omega)) gL_holds_X6_line rfl rfl rfl (by decide +kernel) B.1 ⟨Nat.le_of_ble_eq_true rfl, Nat.le_of_ble_eq_true rfl⟩ rfl rfl (Nat.le_of_ble_eq_true rfl) dL_holds_310 ⟨(Nat.le_of_ble_eq_true rfl), (Nat.le_of_ble_eq_true rfl)⟩ [0, 1, 2, 3, 4] [5, 6, 7] (by decide : ([0, 1, 2, 3, 4] ++ ([5, 6, 7] : List Nat)).Perm (List.range 8)) rfl rfl 313 rfl (fun v0 R0 t0 ht0 hp0 => ?_)
                        obtain ⟨rfl, rfl⟩ := hp0
                        refine q_eqs (st' := [.int (k_tp bx ln sc k 1), .int (nI y), .int (nI 0)]) rfl ?_
                        refine q_eqR (Rs' := [wX, wO, wA, wB, wL, wH, kw, [(aR, .inl (cI, 12, .inl (upd g4 y (nI (k_tot bx y + k_cnt (fun i => (k_la ln i).1 == y) k + 1)))))]]) rfl ?_
                        refine q_eqs (st' := [.int (nI z), .int (nI y), .int (nI 0)]) (by rw [show k_tp bx ln sc k 1 = nI z from congrArg nI hz]) ?_
                        refine q_icmp_eq C dL_holds_313 316 320 rfl (by decide) (nI_eq (by omega) (by omega)) (fun h313 => ?_) (fun h313 => False.elim (by first | omega | simp_all))
                        refine q_iconst (v := nI 0) C dL_holds_320 321 rfl (by decide) ?_
                        refine q_icmp_ne C dL_holds_321 324 358 rfl (by decide) (nI_eq (by omega) (by omega)) (fun h321 => False.elim (by first | omega | simp_all)) (fun h321 => ?_)
                        refine q_aload_n C dL_holds_324 325 7 rfl rfl ?_
                        refine q_iload C dL_holds_325 327 2 rfl rfl ?_
                        refine q_iconst (v := nI 3) C dL_holds_327 328 rfl (by decide) ?_
                        refine q_callV (k := 0) (ci := 5) (n := 2) (rest := []) (Rr := [wH, kw, [(aR, .inl (cI, 12, .inl (upd g4 y (nI (k_tot bx y + k_cnt (fun i => (k_la ln i).1 == y) k + 1)))))]]) C rfl (k_isX_recv hX) rfl (c_X6_line_c l hZ hI hN h0 aO aY aN hsn aT aK wX hX aB aL aS sc wO hO wA hA bx at0 wB hB ln wL hL k 3 (by omega) (k_has_of hL.1.1 (by omega)) (by omega)) gL_holds_X6_line rfl rfl rfl (by decide +kernel) B.1 ⟨Nat.le_of_ble_eq_true rfl, Nat.le_of_ble_eq_true rfl⟩ rfl rfl (Nat.le_of_ble_eq_true rfl) dL_holds_328 ⟨(Nat.le_of_ble_eq_true rfl), (Nat.le_of_ble_eq_true rfl)⟩ [0, 1, 2, 3, 4] [5, 6, 7] (by decide : ([0, 1, 2, 3, 4] ++ ([5, 6, 7] : List Nat)).Perm (List.range 8)) rfl rfl 331 rfl (fun v0 R0 t0 ht0 hp0 => ?_)
                        obtain ⟨rfl, rfl⟩ := hp0
                        refine q_eqs (st' := [.int (k_tp bx ln sc k 3)]) rfl ?_
                        refine q_eqR (Rs' := [wX, wO, wA, wB, wL, wH, kw, [(aR, .inl (cI, 12, .inl (upd g4 y (nI (k_tot bx y + k_cnt (fun i => (k_la ln i).1 == y) k + 1)))))]]) rfl ?_
                        refine q_eqs (st' := [.int (nI 3)]) (by rw [show k_tp bx ln sc k 3 = nI 3 from by show nI (k_wc bx ln sc k) = nI 3; rw [k_wc_3 (by rw [hy, hz]; exact hyz)]]) ?_
                        refine q_iconst (v := nI 3) C dL_holds_331 332 rfl (by decide) ?_
                        refine q_icmp_ne C dL_holds_332 335 339 rfl (by decide) (nI_eq (by omega) (by omega)) (fun h332 => False.elim (by first | omega | simp_all)) (fun h332 => ?_)
                        refine q_iconst (v := nI 1) C dL_holds_335 336 rfl (by decide) ?_
                        refine q_goto C dL_holds_336 340 (by decide) ?_
                        refine q_aload_n C dL_holds_340 341 7 rfl rfl ?_
                        refine q_iload C dL_holds_341 343 2 rfl rfl ?_
                        refine q_iconst (v := nI 2) C dL_holds_343 344 rfl (by decide) ?_
                        refine q_callV (k := 0) (ci := 5) (n := 2) (rest := [.int (nI 1)]) (Rr := [wH, kw, [(aR, .inl (cI, 12, .inl (upd g4 y (nI (k_tot bx y + k_cnt (fun i => (k_la ln i).1 == y) k + 1)))))]]) C rfl (k_isX_recv hX) rfl (c_X6_line_c l hZ hI hN h0 aO aY aN hsn aT aK wX hX aB aL aS sc wO hO wA hA bx at0 wB hB ln wL hL k 2 (by omega) (k_has_of hL.1.1 (by omega)) (by omega)) gL_holds_X6_line rfl rfl rfl (by decide +kernel) B.1 ⟨Nat.le_of_ble_eq_true rfl, Nat.le_of_ble_eq_true rfl⟩ rfl rfl (Nat.le_of_ble_eq_true rfl) dL_holds_344 ⟨(Nat.le_of_ble_eq_true rfl), (Nat.le_of_ble_eq_true rfl)⟩ [0, 1, 2, 3, 4] [5, 6, 7] (by decide : ([0, 1, 2, 3, 4] ++ ([5, 6, 7] : List Nat)).Perm (List.range 8)) rfl rfl 347 rfl (fun v0 R0 t0 ht0 hp0 => ?_)
                        obtain ⟨rfl, rfl⟩ := hp0
                        refine q_eqs (st' := [.int (k_tp bx ln sc k 2), .int (nI 1)]) rfl ?_
                        refine q_eqR (Rs' := [wX, wO, wA, wB, wL, wH, kw, [(aR, .inl (cI, 12, .inl (upd g4 y (nI (k_tot bx y + k_cnt (fun i => (k_la ln i).1 == y) k + 1)))))]]) rfl ?_
                        refine q_eqs (st' := [.int (nI 0), .int (nI 1)]) (by rw [show k_tp bx ln sc k 2 = nI 0 from by show q_b (decide (¬ (k_la ln k).1 = (k_la ln k).2)) = nI 0; rw [hy, hz, decide_eq_false (fun h => h hyz)]; rfl]) ?_
                        refine q_if_ne C dL_holds_347 350 354 rfl (by decide) (q_eq0 (by omega)) (fun h347 => False.elim (by first | omega | simp_all)) (fun h347 => ?_)
                        refine q_iconst (v := nI 1) C dL_holds_350 351 rfl (by decide) ?_
                        refine q_goto C dL_holds_351 355 (by decide) ?_
                        refine q_icmp_eq C dL_holds_355 358 360 rfl (by decide) (nI_eq (by omega) (by omega)) (fun h355 => ?_) (fun h355 => False.elim (by first | omega | simp_all))
                        refine q_iinc (v := nI (k + 1)) C dL_holds_360 363 2 rfl rfl (q_ninc1 (by omega)) [(7, .int (nI (k + 1))), (6, .int (nI (wd + k_wd y))), (5, .int (nI er)), (4, .int (nI al)), (3, .int (nI el)), (2, .int (nI wr)), (1, .ref aR), (0, .ref h0)] (by decide) rfl ?_
                        refine q_goto C dL_holds_363 220 (by decide) ?_
                        refine q_sub (L' := [(7, .int (nI (k + 1))), (6, .int (nI (wd + k_wd y))), (5, .int (nI er)), (4, .int (nI al)), (3, .int (nI el)), (2, .int (nI wr)), (1, .ref aR), (0, .ref h0)]) [0, 1, 2, 3, 4, 5, 6, 7] rfl ?_
                        exact ih_lp4 (k + 1) er (wd + k_wd y) (upd g4 y (nI (k_tot bx y + k_cnt (fun i => (k_la ln i).1 == y) k + 1))) (by omega) (by omega) (by rw [k_cnt_f (by show decide (¬ (k_la ln k).1 = (k_la ln k).2) = false; rw [hy, hz]; exact decide_eq_false (fun h => h hyz))]; omega) (by have h9 := k_np_n ln k; rw [k_sum_s, hy]; omega) (fun x hx => (Decidable.em (x = y)).elim (fun e => by rw [e, pk_us, k_cnt_t (by simp; omega), Nat.add_assoc]) (fun e => by rw [pk_un e, hg4 x hx, k_cnt_f (by simp; omega)]))
                      · refine q_iconst (v := nI 1) C dL_holds_274 275 rfl (by decide) ?_
                        refine q_goto C dL_holds_275 279 (by decide) ?_
                        refine q_iadd (v := nI (k_wd y + 1)) C dL_holds_279 280 rfl (q_nadd (by omega)) ?_
                        refine q_iadd (v := nI (wd + k_wd y + 1)) C dL_holds_280 281 rfl (q_nadd (by omega)) ?_
                        refine q_istore C dL_holds_281 283 rfl [(6, .int (nI (wd + k_wd y + 1))), (5, .int (nI er)), (7, .int (nI k)), (4, .int (nI al)), (3, .int (nI el)), (2, .int (nI wr)), (1, .ref aR), (0, .ref h0)] (by decide) rfl ?_
                        refine q_aload_n C dL_holds_283 284 7 rfl rfl ?_
                        refine q_iload C dL_holds_284 286 2 rfl rfl ?_
                        refine q_iconst (v := nI 2) C dL_holds_286 287 rfl (by decide) ?_
                        refine q_callV (k := 0) (ci := 5) (n := 2) (rest := []) (Rr := [wH, kw, [(aR, .inl (cI, 12, .inl (upd g4 y (nI (k_tot bx y + k_cnt (fun i => (k_la ln i).1 == y) k + 1)))))]]) C rfl (k_isX_recv hX) rfl (c_X6_line_c l hZ hI hN h0 aO aY aN hsn aT aK wX hX aB aL aS sc wO hO wA hA bx at0 wB hB ln wL hL k 2 (by omega) (k_has_of hL.1.1 (by omega)) (by omega)) gL_holds_X6_line rfl rfl rfl (by decide +kernel) B.1 ⟨Nat.le_of_ble_eq_true rfl, Nat.le_of_ble_eq_true rfl⟩ rfl rfl (Nat.le_of_ble_eq_true rfl) dL_holds_287 ⟨(Nat.le_of_ble_eq_true rfl), (Nat.le_of_ble_eq_true rfl)⟩ [0, 1, 2, 3, 4] [5, 6, 7] (by decide : ([0, 1, 2, 3, 4] ++ ([5, 6, 7] : List Nat)).Perm (List.range 8)) rfl rfl 290 rfl (fun v0 R0 t0 ht0 hp0 => ?_)
                        obtain ⟨rfl, rfl⟩ := hp0
                        refine q_eqs (st' := [.int (k_tp bx ln sc k 2)]) rfl ?_
                        refine q_eqR (Rs' := [wX, wO, wA, wB, wL, wH, kw, [(aR, .inl (cI, 12, .inl (upd g4 y (nI (k_tot bx y + k_cnt (fun i => (k_la ln i).1 == y) k + 1)))))]]) rfl ?_
                        refine q_eqs (st' := [.int (nI 0)]) (by rw [show k_tp bx ln sc k 2 = nI 0 from by show q_b (decide (¬ (k_la ln k).1 = (k_la ln k).2)) = nI 0; rw [hy, hz, decide_eq_false (fun h => h hyz)]; rfl]) ?_
                        refine q_iconst (v := nI 1) C dL_holds_290 291 rfl (by decide) ?_
                        refine q_icmp_ne C dL_holds_291 294 298 rfl (by decide) (nI_eq (by omega) (by omega)) (fun h291 => ?_) (fun h291 => False.elim (by first | omega | simp_all))
                        refine q_iconst (v := nI 0) C dL_holds_298 299 rfl (by decide) ?_
                        refine q_aload_n C dL_holds_299 300 7 rfl rfl ?_
                        refine q_iload C dL_holds_300 302 2 rfl rfl ?_
                        refine q_iconst (v := nI 0) C dL_holds_302 303 rfl (by decide) ?_
                        refine q_callV (k := 0) (ci := 5) (n := 2) (rest := [.int (nI 0)]) (Rr := [wH, kw, [(aR, .inl (cI, 12, .inl (upd g4 y (nI (k_tot bx y + k_cnt (fun i => (k_la ln i).1 == y) k + 1)))))]]) C rfl (k_isX_recv hX) rfl (c_X6_line_c l hZ hI hN h0 aO aY aN hsn aT aK wX hX aB aL aS sc wO hO wA hA bx at0 wB hB ln wL hL k 0 (by omega) (k_has_of hL.1.1 (by omega)) (by omega)) gL_holds_X6_line rfl rfl rfl (by decide +kernel) B.1 ⟨Nat.le_of_ble_eq_true rfl, Nat.le_of_ble_eq_true rfl⟩ rfl rfl (Nat.le_of_ble_eq_true rfl) dL_holds_303 ⟨(Nat.le_of_ble_eq_true rfl), (Nat.le_of_ble_eq_true rfl)⟩ [0, 1, 2, 3, 4] [5, 6, 7] (by decide : ([0, 1, 2, 3, 4] ++ ([5, 6, 7] : List Nat)).Perm (List.range 8)) rfl rfl 306 rfl (fun v0 R0 t0 ht0 hp0 => ?_)
                        obtain ⟨rfl, rfl⟩ := hp0
                        refine q_eqs (st' := [.int (k_tp bx ln sc k 0), .int (nI 0)]) rfl ?_
                        refine q_eqR (Rs' := [wX, wO, wA, wB, wL, wH, kw, [(aR, .inl (cI, 12, .inl (upd g4 y (nI (k_tot bx y + k_cnt (fun i => (k_la ln i).1 == y) k + 1)))))]]) rfl ?_
                        refine q_eqs (st' := [.int (nI y), .int (nI 0)]) (by rw [show k_tp bx ln sc k 0 = nI y from congrArg nI hy]) ?_
                        refine q_aload_n C dL_holds_306 307 7 rfl rfl ?_
                        refine q_iload C dL_holds_307 309 2 rfl rfl ?_
                        refine q_iconst (v := nI 1) C dL_holds_309 310 rfl (by decide) ?_
                        refine q_callV (k := 0) (ci := 5) (n := 2) (rest := [.int (nI y), .int (nI 0)]) (Rr := [wH, kw, [(aR, .inl (cI, 12, .inl (upd g4 y (nI (k_tot bx y + k_cnt (fun i => (k_la ln i).1 == y) k + 1)))))]]) C rfl (k_isX_recv hX) rfl (c_X6_line_c l hZ hI hN h0 aO aY aN hsn aT aK wX hX aB aL aS sc wO hO wA hA bx at0 wB hB ln wL hL k 1 (by omega) (k_has_of hL.1.1 (by omega)) (by omega)) gL_holds_X6_line rfl rfl rfl (by decide +kernel) B.1 ⟨Nat.le_of_ble_eq_true rfl, Nat.le_of_ble_eq_true rfl⟩ rfl rfl (Nat.le_of_ble_eq_true rfl) dL_holds_310 ⟨(Nat.le_of_ble_eq_true rfl), (Nat.le_of_ble_eq_true rfl)⟩ [0, 1, 2, 3, 4] [5, 6, 7] (by decide : ([0, 1, 2, 3, 4] ++ ([5, 6, 7] : List Nat)).Perm (List.range 8)) rfl rfl 313 rfl (fun v0 R0 t0 ht0 hp0 => ?_)
                        obtain ⟨rfl, rfl⟩ := hp0
                        refine q_eqs (st' := [.int (k_tp bx ln sc k 1), .int (nI y), .int (nI 0)]) rfl ?_
                        refine q_eqR (Rs' := [wX, wO, wA, wB, wL, wH, kw, [(aR, .inl (cI, 12, .inl (upd g4 y (nI (k_tot bx y + k_cnt (fun i => (k_la ln i).1 == y) k + 1)))))]]) rfl ?_
                        refine q_eqs (st' := [.int (nI z), .int (nI y), .int (nI 0)]) (by rw [show k_tp bx ln sc k 1 = nI z from congrArg nI hz]) ?_
                        refine q_icmp_eq C dL_holds_313 316 320 rfl (by decide) (nI_eq (by omega) (by omega)) (fun h313 => ?_) (fun h313 => False.elim (by first | omega | simp_all))
                        refine q_iconst (v := nI 0) C dL_holds_320 321 rfl (by decide) ?_
                        refine q_icmp_ne C dL_holds_321 324 358 rfl (by decide) (nI_eq (by omega) (by omega)) (fun h321 => False.elim (by first | omega | simp_all)) (fun h321 => ?_)
                        refine q_aload_n C dL_holds_324 325 7 rfl rfl ?_
                        refine q_iload C dL_holds_325 327 2 rfl rfl ?_
                        refine q_iconst (v := nI 3) C dL_holds_327 328 rfl (by decide) ?_
                        refine q_callV (k := 0) (ci := 5) (n := 2) (rest := []) (Rr := [wH, kw, [(aR, .inl (cI, 12, .inl (upd g4 y (nI (k_tot bx y + k_cnt (fun i => (k_la ln i).1 == y) k + 1)))))]]) C rfl (k_isX_recv hX) rfl (c_X6_line_c l hZ hI hN h0 aO aY aN hsn aT aK wX hX aB aL aS sc wO hO wA hA bx at0 wB hB ln wL hL k 3 (by omega) (k_has_of hL.1.1 (by omega)) (by omega)) gL_holds_X6_line rfl rfl rfl (by decide +kernel) B.1 ⟨Nat.le_of_ble_eq_true rfl, Nat.le_of_ble_eq_true rfl⟩ rfl rfl (Nat.le_of_ble_eq_true rfl) dL_holds_328 ⟨(Nat.le_of_ble_eq_true rfl), (Nat.le_of_ble_eq_true rfl)⟩ [0, 1, 2, 3, 4] [5, 6, 7] (by decide : ([0, 1, 2, 3, 4] ++ ([5, 6, 7] : List Nat)).Perm (List.range 8)) rfl rfl 331 rfl (fun v0 R0 t0 ht0 hp0 => ?_)
                        obtain ⟨rfl, rfl⟩ := hp0
                        refine q_eqs (st' := [.int (k_tp bx ln sc k 3)]) rfl ?_
                        refine q_eqR (Rs' := [wX, wO, wA, wB, wL, wH, kw, [(aR, .inl (cI, 12, .inl (upd g4 y (nI (k_tot bx y + k_cnt (fun i => (k_la ln i).1 == y) k + 1)))))]]) rfl ?_
                        refine q_eqs (st' := [.int (nI 3)]) (by rw [show k_tp bx ln sc k 3 = nI 3 from by show nI (k_wc bx ln sc k) = nI 3; rw [k_wc_3 (by rw [hy, hz]; exact hyz)]]) ?_
                        refine q_iconst (v := nI 3) C dL_holds_331 332 rfl (by decide) ?_
                        refine q_icmp_ne C dL_holds_332 335 339 rfl (by decide) (nI_eq (by omega) (by omega)) (fun h332 => False.elim (by first | omega | simp_all)) (fun h332 => ?_)
                        refine q_iconst (v := nI 1) C dL_holds_335 336 rfl (by decide) ?_
                        refine q_goto C dL_holds_336 340 (by decide) ?_
                        refine q_aload_n C dL_holds_340 341 7 rfl rfl ?_
                        refine q_iload C dL_holds_341 343 2 rfl rfl ?_
                        refine q_iconst (v := nI 2) C dL_holds_343 344 rfl (by decide) ?_
                        refine q_callV (k := 0) (ci := 5) (n := 2) (rest := [.int (nI 1)]) (Rr := [wH, kw, [(aR, .inl (cI, 12, .inl (upd g4 y (nI (k_tot bx y + k_cnt (fun i => (k_la ln i).1 == y) k + 1)))))]]) C rfl (k_isX_recv hX) rfl (c_X6_line_c l hZ hI hN h0 aO aY aN hsn aT aK wX hX aB aL aS sc wO hO wA hA bx at0 wB hB ln wL hL k 2 (by omega) (k_has_of hL.1.1 (by omega)) (by omega)) gL_holds_X6_line rfl rfl rfl (by decide +kernel) B.1 ⟨Nat.le_of_ble_eq_true rfl, Nat.le_of_ble_eq_true rfl⟩ rfl rfl (Nat.le_of_ble_eq_true rfl) dL_holds_344 ⟨(Nat.le_of_ble_eq_true rfl), (Nat.le_of_ble_eq_true rfl)⟩ [0, 1, 2, 3, 4] [5, 6, 7] (by decide : ([0, 1, 2, 3, 4] ++ ([5, 6, 7] : List Nat)).Perm (List.range 8)) rfl rfl 347 rfl (fun v0 R0 t0 ht0 hp0 => ?_)
                        obtain ⟨rfl, rfl⟩ := hp0
                        refine q_eqs (st' := [.int (k_tp bx ln sc k 2), .int (nI 1)]) rfl ?_
                        refine q_eqR (Rs' := [wX, wO, wA, wB, wL, wH, kw, [(aR, .inl (cI, 12, .inl (upd g4 y (nI (k_tot bx y + k_cnt (fun i => (k_la ln i).1 == y) k + 1)))))]]) rfl ?_
                        refine q_eqs (st' := [.int (nI 0), .int (nI 1)]) (by rw [show k_tp bx ln sc k 2 = nI 0 from by show q_b (decide (¬ (k_la ln k).1 = (k_la ln k).2)) = nI 0; rw [hy, hz, decide_eq_false (fun h => h hyz)]; rfl]) ?_
                        refine q_if_ne C dL_holds_347 350 354 rfl (by decide) (q_eq0 (by omega)) (fun h347 => False.elim (by first | omega | simp_all)) (fun h347 => ?_)
                        refine q_iconst (v := nI 1) C dL_holds_350 351 rfl (by decide) ?_
                        refine q_goto C dL_holds_351 355 (by decide) ?_
                        refine q_icmp_eq C dL_holds_355 358 360 rfl (by decide) (nI_eq (by omega) (by omega)) (fun h355 => ?_) (fun h355 => False.elim (by first | omega | simp_all))
                        refine q_iinc (v := nI (k + 1)) C dL_holds_360 363 2 rfl rfl (q_ninc1 (by omega)) [(7, .int (nI (k + 1))), (6, .int (nI (wd + k_wd y + 1))), (5, .int (nI er)), (4, .int (nI al)), (3, .int (nI el)), (2, .int (nI wr)), (1, .ref aR), (0, .ref h0)] (by decide) rfl ?_
                        refine q_goto C dL_holds_363 220 (by decide) ?_
                        refine q_sub (L' := [(7, .int (nI (k + 1))), (6, .int (nI (wd + k_wd y + 1))), (5, .int (nI er)), (4, .int (nI al)), (3, .int (nI el)), (2, .int (nI wr)), (1, .ref aR), (0, .ref h0)]) [0, 1, 2, 3, 4, 5, 6, 7] rfl ?_
                        exact ih_lp4 (k + 1) er (wd + k_wd y + 1) (upd g4 y (nI (k_tot bx y + k_cnt (fun i => (k_la ln i).1 == y) k + 1))) (by omega) (by omega) (by rw [k_cnt_f (by show decide (¬ (k_la ln k).1 = (k_la ln k).2) = false; rw [hy, hz]; exact decide_eq_false (fun h => h hyz))]; omega) (by have h9 := k_np_n ln k; rw [k_sum_s, hy]; omega) (fun x hx => (Decidable.em (x = y)).elim (fun e => by rw [e, pk_us, k_cnt_t (by simp; omega), Nat.add_assoc]) (fun e => by rw [pk_un e, hg4 x hx, k_cnt_f (by simp; omega)]))
                    · refine q_eqs (st' := [.int (nI 1), .int (nI er)]) (by rw [show k_tp bx ln sc k 2 = nI 1 from by show q_b (decide (¬ (k_la ln k).1 = (k_la ln k).2)) = nI 1; rw [hy, hz, decide_eq_true hyz]; rfl]) ?_
                      refine q_iadd (v := nI (er + 1)) C dL_holds_252 253 rfl (q_nadd (by omega)) ?_
                      refine q_istore C dL_holds_253 255 rfl [(5, .int (nI (er + 1))), (7, .int (nI k)), (6, .int (nI wd)), (4, .int (nI al)), (3, .int (nI el)), (2, .int (nI wr)), (1, .ref aR), (0, .ref h0)] (by decide) rfl ?_
                      refine q_iload C dL_holds_255 257 2 rfl rfl ?_
                      refine q_aload_n C dL_holds_257 258 7 rfl rfl ?_
                      refine q_aload_n C dL_holds_258 259 7 rfl rfl ?_
                      refine q_iload C dL_holds_259 261 1 rfl rfl ?_
                      refine q_iconst (v := nI 0) C dL_holds_261 262 rfl (by decide) ?_
                      refine q_callV (k := 0) (ci := 5) (n := 2) (rest := [.ref h0, .int (nI wd)]) (Rr := [wH, kw, [(aR, .inl (cI, 12, .inl (upd g4 y (nI (k_tot bx y + k_cnt (fun i => (k_la ln i).1 == y) k + 1)))))]]) C rfl (k_isX_recv hX) rfl (c_X6_line_c l hZ hI hN h0 aO aY aN hsn aT aK wX hX aB aL aS sc wO hO wA hA bx at0 wB hB ln wL hL k 0 (by omega) (k_has_of hL.1.1 (by omega)) (by omega)) gL_holds_X6_line rfl rfl rfl (by decide +kernel) B.1 ⟨Nat.le_of_ble_eq_true rfl, Nat.le_of_ble_eq_true rfl⟩ rfl rfl (Nat.le_of_ble_eq_true rfl) dL_holds_262 ⟨(Nat.le_of_ble_eq_true rfl), (Nat.le_of_ble_eq_true rfl)⟩ [0, 1, 2, 3, 4] [5, 6, 7] (by decide : ([0, 1, 2, 3, 4] ++ ([5, 6, 7] : List Nat)).Perm (List.range 8)) rfl rfl 265 rfl (fun v0 R0 t0 ht0 hp0 => ?_)
                      obtain ⟨rfl, rfl⟩ := hp0
                      refine q_eqs (st' := [.int (k_tp bx ln sc k 0), .ref h0, .int (nI wd)]) rfl ?_
                      refine q_eqR (Rs' := [wX, wO, wA, wB, wL, wH, kw, [(aR, .inl (cI, 12, .inl (upd g4 y (nI (k_tot bx y + k_cnt (fun i => (k_la ln i).1 == y) k + 1)))))]]) rfl ?_
                      refine q_eqs (st' := [.int (nI y), .ref h0, .int (nI wd)]) (by rw [show k_tp bx ln sc k 0 = nI y from congrArg nI hy]) ?_
                      refine q_iconst (v := nI 3) C dL_holds_265 266 rfl (by decide) ?_
                      refine q_callV (k := 0) (ci := 5) (n := 2) (rest := [.int (nI wd)]) (Rr := [wL, wH, kw, [(aR, .inl (cI, 12, .inl (upd g4 y (nI (k_tot bx y + k_cnt (fun i => (k_la ln i).1 == y) k + 1)))))]]) C rfl (k_isX_recv hX) rfl (c_X6_box_c l hZ hI hN h0 aO aY aN hsn aT aK wX hX aB aL aS sc wO hO wA hA bx at0 wB hB y 3 (by omega) (by omega)) gL_holds_X6_box rfl rfl rfl (by decide +kernel) B.1 ⟨Nat.le_of_ble_eq_true rfl, Nat.le_of_ble_eq_true rfl⟩ rfl rfl (Nat.le_of_ble_eq_true rfl) dL_holds_266 ⟨(Nat.le_of_ble_eq_true rfl), (Nat.le_of_ble_eq_true rfl)⟩ [0, 1, 2, 3] [4, 5, 6, 7] (by decide : ([0, 1, 2, 3] ++ ([4, 5, 6, 7] : List Nat)).Perm (List.range 8)) rfl rfl 269 rfl (fun v0 R0 t0 ht0 hp0 => ?_)
                      obtain ⟨rfl, rfl⟩ := hp0
                      refine q_eqs (st' := [.int (k_tb bx at0 sc y 3), .int (nI wd)]) rfl ?_
                      refine q_eqR (Rs' := [wX, wO, wA, wB, wL, wH, kw, [(aR, .inl (cI, 12, .inl (upd g4 y (nI (k_tot bx y + k_cnt (fun i => (k_la ln i).1 == y) k + 1)))))]]) rfl ?_
                      refine q_eqs (st' := [.int (nI (k_wd y)), .int (nI wd)]) (by rw [show k_tb bx at0 sc y 3 = nI (k_wd y) from rfl]) ?_
                      refine q_iload C dL_holds_269 271 1 rfl rfl ?_
                      refine q_if_le C dL_holds_271 274 278 rfl (by decide) (q_le0 (by omega)) (fun h271 => ?_) (fun h271 => ?_)
                      · refine q_iconst (v := nI 0) C dL_holds_278 279 rfl (by decide) ?_
                        refine q_iadd (v := nI (k_wd y)) C dL_holds_279 280 rfl (q_nadd (by omega)) ?_
                        refine q_iadd (v := nI (wd + k_wd y)) C dL_holds_280 281 rfl (q_nadd (by omega)) ?_
                        refine q_istore C dL_holds_281 283 rfl [(6, .int (nI (wd + k_wd y))), (5, .int (nI (er + 1))), (7, .int (nI k)), (4, .int (nI al)), (3, .int (nI el)), (2, .int (nI wr)), (1, .ref aR), (0, .ref h0)] (by decide) rfl ?_
                        refine q_aload_n C dL_holds_283 284 7 rfl rfl ?_
                        refine q_iload C dL_holds_284 286 2 rfl rfl ?_
                        refine q_iconst (v := nI 2) C dL_holds_286 287 rfl (by decide) ?_
                        refine q_callV (k := 0) (ci := 5) (n := 2) (rest := []) (Rr := [wH, kw, [(aR, .inl (cI, 12, .inl (upd g4 y (nI (k_tot bx y + k_cnt (fun i => (k_la ln i).1 == y) k + 1)))))]]) C rfl (k_isX_recv hX) rfl (c_X6_line_c l hZ hI hN h0 aO aY aN hsn aT aK wX hX aB aL aS sc wO hO wA hA bx at0 wB hB ln wL hL k 2 (by omega) (k_has_of hL.1.1 (by omega)) (by omega)) gL_holds_X6_line rfl rfl rfl (by decide +kernel) B.1 ⟨Nat.le_of_ble_eq_true rfl, Nat.le_of_ble_eq_true rfl⟩ rfl rfl (Nat.le_of_ble_eq_true rfl) dL_holds_287 ⟨(Nat.le_of_ble_eq_true rfl), (Nat.le_of_ble_eq_true rfl)⟩ [0, 1, 2, 3, 4] [5, 6, 7] (by decide : ([0, 1, 2, 3, 4] ++ ([5, 6, 7] : List Nat)).Perm (List.range 8)) rfl rfl 290 rfl (fun v0 R0 t0 ht0 hp0 => ?_)
                        obtain ⟨rfl, rfl⟩ := hp0
                        refine q_eqs (st' := [.int (k_tp bx ln sc k 2)]) rfl ?_
                        refine q_eqR (Rs' := [wX, wO, wA, wB, wL, wH, kw, [(aR, .inl (cI, 12, .inl (upd g4 y (nI (k_tot bx y + k_cnt (fun i => (k_la ln i).1 == y) k + 1)))))]]) rfl ?_
                        refine q_eqs (st' := [.int (nI 1)]) (by rw [show k_tp bx ln sc k 2 = nI 1 from by show q_b (decide (¬ (k_la ln k).1 = (k_la ln k).2)) = nI 1; rw [hy, hz, decide_eq_true hyz]; rfl]) ?_
                        refine q_iconst (v := nI 1) C dL_holds_290 291 rfl (by decide) ?_
                        refine q_icmp_ne C dL_holds_291 294 298 rfl (by decide) (nI_eq (by omega) (by omega)) (fun h291 => False.elim (by first | omega | simp_all)) (fun h291 => ?_)
                        refine q_iconst (v := nI 1) C dL_holds_294 295 rfl (by decide) ?_
                        refine q_goto C dL_holds_295 299 (by decide) ?_
                        refine q_aload_n C dL_holds_299 300 7 rfl rfl ?_
                        refine q_iload C dL_holds_300 302 2 rfl rfl ?_
                        refine q_iconst (v := nI 0) C dL_holds_302 303 rfl (by decide) ?_
                        refine q_callV (k := 0) (ci := 5) (n := 2) (rest := [.int (nI 1)]) (Rr := [wH, kw, [(aR, .inl (cI, 12, .inl (upd g4 y (nI (k_tot bx y + k_cnt (fun i => (k_la ln i).1 == y) k + 1)))))]]) C rfl (k_isX_recv hX) rfl (c_X6_line_c l hZ hI hN h0 aO aY aN hsn aT aK wX hX aB aL aS sc wO hO wA hA bx at0 wB hB ln wL hL k 0 (by omega) (k_has_of hL.1.1 (by omega)) (by omega)) gL_holds_X6_line rfl rfl rfl (by decide +kernel) B.1 ⟨Nat.le_of_ble_eq_true rfl, Nat.le_of_ble_eq_true rfl⟩ rfl rfl (Nat.le_of_ble_eq_true rfl) dL_holds_303 ⟨(Nat.le_of_ble_eq_true rfl), (Nat.le_of_ble_eq_true rfl)⟩ [0, 1, 2, 3, 4] [5, 6, 7] (by decide : ([0, 1, 2, 3, 4] ++ ([5, 6, 7] : List Nat)).Perm (List.range 8)) rfl rfl 306 rfl (fun v0 R0 t0 ht0 hp0 => ?_)
                        obtain ⟨rfl, rfl⟩ := hp0
                        refine q_eqs (st' := [.int (k_tp bx ln sc k 0), .int (nI 1)]) rfl ?_
                        refine q_eqR (Rs' := [wX, wO, wA, wB, wL, wH, kw, [(aR, .inl (cI, 12, .inl (upd g4 y (nI (k_tot bx y + k_cnt (fun i => (k_la ln i).1 == y) k + 1)))))]]) rfl ?_
                        refine q_eqs (st' := [.int (nI y), .int (nI 1)]) (by rw [show k_tp bx ln sc k 0 = nI y from congrArg nI hy]) ?_
                        refine q_aload_n C dL_holds_306 307 7 rfl rfl ?_
                        refine q_iload C dL_holds_307 309 2 rfl rfl ?_
                        refine q_iconst (v := nI 1) C dL_holds_309 310 rfl (by decide) ?_
                        refine q_callV (k := 0) (ci := 5) (n := 2) (rest := [.int (nI y), .int (nI 1)]) (Rr := [wH, kw, [(aR, .inl (cI, 12, .inl (upd g4 y (nI (k_tot bx y + k_cnt (fun i => (k_la ln i).1 == y) k + 1)))))]]) C rfl (k_isX_recv hX) rfl (c_X6_line_c l hZ hI hN h0 aO aY aN hsn aT aK wX hX aB aL aS sc wO hO wA hA bx at0 wB hB ln wL hL k 1 (by omega) (k_has_of hL.1.1 (by omega)) (by omega)) gL_holds_X6_line rfl rfl rfl (by decide +kernel) B.1 ⟨Nat.le_of_ble_eq_true rfl, Nat.le_of_ble_eq_true rfl⟩ rfl rfl (Nat.le_of_ble_eq_true rfl) dL_holds_310 ⟨(Nat.le_of_ble_eq_true rfl), (Nat.le_of_ble_eq_true rfl)⟩ [0, 1, 2, 3, 4] [5, 6, 7] (by decide : ([0, 1, 2, 3, 4] ++ ([5, 6, 7] : List Nat)).Perm (List.range 8)) rfl rfl 313 rfl (fun v0 R0 t0 ht0 hp0 => ?_)
                        obtain ⟨rfl, rfl⟩ := hp0
                        refine q_eqs (st' := [.int (k_tp bx ln sc k 1), .int (nI y), .int (nI 1)]) rfl ?_
                        refine q_eqR (Rs' := [wX, wO, wA, wB, wL, wH, kw, [(aR, .inl (cI, 12, .inl (upd g4 y (nI (k_tot bx y + k_cnt (fun i => (k_la ln i).1 == y) k + 1)))))]]) rfl ?_
                        refine q_eqs (st' := [.int (nI z), .int (nI y), .int (nI 1)]) (by rw [show k_tp bx ln sc k 1 = nI z from congrArg nI hz]) ?_
                        refine q_icmp_eq C dL_holds_313 316 320 rfl (by decide) (nI_eq (by omega) (by omega)) (fun h313 => False.elim (hyz h313)) (fun h313 => ?_)
                        refine q_iconst (v := nI 1) C dL_holds_316 317 rfl (by decide) ?_
                        refine q_goto C dL_holds_317 321 (by decide) ?_
                        refine q_icmp_ne C dL_holds_321 324 358 rfl (by decide) (nI_eq (by omega) (by omega)) (fun h321 => False.elim (by first | omega | simp_all)) (fun h321 => ?_)
                        refine q_aload_n C dL_holds_324 325 7 rfl rfl ?_
                        refine q_iload C dL_holds_325 327 2 rfl rfl ?_
                        refine q_iconst (v := nI 3) C dL_holds_327 328 rfl (by decide) ?_
                        refine q_callV (k := 0) (ci := 5) (n := 2) (rest := []) (Rr := [wH, kw, [(aR, .inl (cI, 12, .inl (upd g4 y (nI (k_tot bx y + k_cnt (fun i => (k_la ln i).1 == y) k + 1)))))]]) C rfl (k_isX_recv hX) rfl (c_X6_line_c l hZ hI hN h0 aO aY aN hsn aT aK wX hX aB aL aS sc wO hO wA hA bx at0 wB hB ln wL hL k 3 (by omega) (k_has_of hL.1.1 (by omega)) (by omega)) gL_holds_X6_line rfl rfl rfl (by decide +kernel) B.1 ⟨Nat.le_of_ble_eq_true rfl, Nat.le_of_ble_eq_true rfl⟩ rfl rfl (Nat.le_of_ble_eq_true rfl) dL_holds_328 ⟨(Nat.le_of_ble_eq_true rfl), (Nat.le_of_ble_eq_true rfl)⟩ [0, 1, 2, 3, 4] [5, 6, 7] (by decide : ([0, 1, 2, 3, 4] ++ ([5, 6, 7] : List Nat)).Perm (List.range 8)) rfl rfl 331 rfl (fun v0 R0 t0 ht0 hp0 => ?_)
                        obtain ⟨rfl, rfl⟩ := hp0
                        refine q_eqs (st' := [.int (k_tp bx ln sc k 3)]) rfl ?_
                        refine q_eqR (Rs' := [wX, wO, wA, wB, wL, wH, kw, [(aR, .inl (cI, 12, .inl (upd g4 y (nI (k_tot bx y + k_cnt (fun i => (k_la ln i).1 == y) k + 1)))))]]) rfl ?_
                        refine q_eqs (st' := [.int (nI (k_wc bx ln sc k))]) (by rw [show k_tp bx ln sc k 3 = nI (k_wc bx ln sc k) from rfl]) ?_
                        refine q_iconst (v := nI 3) C dL_holds_331 332 rfl (by decide) ?_
                        refine q_icmp_ne C dL_holds_332 335 339 rfl (by decide) (nI_eq (by omega) (by omega)) (fun h332 => ?_) (fun h332 => False.elim (k_wc_not3 (by rw [hy, hz]; exact hyz) h332))
                        refine q_iconst (v := nI 0) C dL_holds_339 340 rfl (by decide) ?_
                        refine q_aload_n C dL_holds_340 341 7 rfl rfl ?_
                        refine q_iload C dL_holds_341 343 2 rfl rfl ?_
                        refine q_iconst (v := nI 2) C dL_holds_343 344 rfl (by decide) ?_
                        refine q_callV (k := 0) (ci := 5) (n := 2) (rest := [.int (nI 0)]) (Rr := [wH, kw, [(aR, .inl (cI, 12, .inl (upd g4 y (nI (k_tot bx y + k_cnt (fun i => (k_la ln i).1 == y) k + 1)))))]]) C rfl (k_isX_recv hX) rfl (c_X6_line_c l hZ hI hN h0 aO aY aN hsn aT aK wX hX aB aL aS sc wO hO wA hA bx at0 wB hB ln wL hL k 2 (by omega) (k_has_of hL.1.1 (by omega)) (by omega)) gL_holds_X6_line rfl rfl rfl (by decide +kernel) B.1 ⟨Nat.le_of_ble_eq_true rfl, Nat.le_of_ble_eq_true rfl⟩ rfl rfl (Nat.le_of_ble_eq_true rfl) dL_holds_344 ⟨(Nat.le_of_ble_eq_true rfl), (Nat.le_of_ble_eq_true rfl)⟩ [0, 1, 2, 3, 4] [5, 6, 7] (by decide : ([0, 1, 2, 3, 4] ++ ([5, 6, 7] : List Nat)).Perm (List.range 8)) rfl rfl 347 rfl (fun v0 R0 t0 ht0 hp0 => ?_)
                        obtain ⟨rfl, rfl⟩ := hp0
                        refine q_eqs (st' := [.int (k_tp bx ln sc k 2), .int (nI 0)]) rfl ?_
                        refine q_eqR (Rs' := [wX, wO, wA, wB, wL, wH, kw, [(aR, .inl (cI, 12, .inl (upd g4 y (nI (k_tot bx y + k_cnt (fun i => (k_la ln i).1 == y) k + 1)))))]]) rfl ?_
                        refine q_eqs (st' := [.int (nI 1), .int (nI 0)]) (by rw [show k_tp bx ln sc k 2 = nI 1 from by show q_b (decide (¬ (k_la ln k).1 = (k_la ln k).2)) = nI 1; rw [hy, hz, decide_eq_true hyz]; rfl]) ?_
                        refine q_if_ne C dL_holds_347 350 354 rfl (by decide) (q_eq0 (by omega)) (fun h347 => ?_) (fun h347 => False.elim (by first | omega | simp_all))
                        refine q_iconst (v := nI 0) C dL_holds_354 355 rfl (by decide) ?_
                        refine q_icmp_eq C dL_holds_355 358 360 rfl (by decide) (nI_eq (by omega) (by omega)) (fun h355 => ?_) (fun h355 => False.elim (by first | omega | simp_all))
                        refine q_iinc (v := nI (k + 1)) C dL_holds_360 363 2 rfl rfl (q_ninc1 (by omega)) [(7, .int (nI (k + 1))), (6, .int (nI (wd + k_wd y))), (5, .int (nI (er + 1))), (4, .int (nI al)), (3, .int (nI el)), (2, .int (nI wr)), (1, .ref aR), (0, .ref h0)] (by decide) rfl ?_
                        refine q_goto C dL_holds_363 220 (by decide) ?_
                        refine q_sub (L' := [(7, .int (nI (k + 1))), (6, .int (nI (wd + k_wd y))), (5, .int (nI (er + 1))), (4, .int (nI al)), (3, .int (nI el)), (2, .int (nI wr)), (1, .ref aR), (0, .ref h0)]) [0, 1, 2, 3, 4, 5, 6, 7] rfl ?_
                        exact ih_lp4 (k + 1) (er + 1) (wd + k_wd y) (upd g4 y (nI (k_tot bx y + k_cnt (fun i => (k_la ln i).1 == y) k + 1))) (by omega) (by omega) (by rw [k_cnt_t (by show decide (¬ (k_la ln k).1 = (k_la ln k).2) = true; rw [hy, hz]; exact decide_eq_true hyz)]; omega) (by have h9 := k_np_n ln k; rw [k_sum_s, hy]; omega) (fun x hx => (Decidable.em (x = y)).elim (fun e => by rw [e, pk_us, k_cnt_t (by simp; omega), Nat.add_assoc]) (fun e => by rw [pk_un e, hg4 x hx, k_cnt_f (by simp; omega)]))
                      · refine q_iconst (v := nI 1) C dL_holds_274 275 rfl (by decide) ?_
                        refine q_goto C dL_holds_275 279 (by decide) ?_
                        refine q_iadd (v := nI (k_wd y + 1)) C dL_holds_279 280 rfl (q_nadd (by omega)) ?_
                        refine q_iadd (v := nI (wd + k_wd y + 1)) C dL_holds_280 281 rfl (q_nadd (by omega)) ?_
                        refine q_istore C dL_holds_281 283 rfl [(6, .int (nI (wd + k_wd y + 1))), (5, .int (nI (er + 1))), (7, .int (nI k)), (4, .int (nI al)), (3, .int (nI el)), (2, .int (nI wr)), (1, .ref aR), (0, .ref h0)] (by decide) rfl ?_
                        refine q_aload_n C dL_holds_283 284 7 rfl rfl ?_
                        refine q_iload C dL_holds_284 286 2 rfl rfl ?_
                        refine q_iconst (v := nI 2) C dL_holds_286 287 rfl (by decide) ?_
                        refine q_callV (k := 0) (ci := 5) (n := 2) (rest := []) (Rr := [wH, kw, [(aR, .inl (cI, 12, .inl (upd g4 y (nI (k_tot bx y + k_cnt (fun i => (k_la ln i).1 == y) k + 1)))))]]) C rfl (k_isX_recv hX) rfl (c_X6_line_c l hZ hI hN h0 aO aY aN hsn aT aK wX hX aB aL aS sc wO hO wA hA bx at0 wB hB ln wL hL k 2 (by omega) (k_has_of hL.1.1 (by omega)) (by omega)) gL_holds_X6_line rfl rfl rfl (by decide +kernel) B.1 ⟨Nat.le_of_ble_eq_true rfl, Nat.le_of_ble_eq_true rfl⟩ rfl rfl (Nat.le_of_ble_eq_true rfl) dL_holds_287 ⟨(Nat.le_of_ble_eq_true rfl), (Nat.le_of_ble_eq_true rfl)⟩ [0, 1, 2, 3, 4] [5, 6, 7] (by decide : ([0, 1, 2, 3, 4] ++ ([5, 6, 7] : List Nat)).Perm (List.range 8)) rfl rfl 290 rfl (fun v0 R0 t0 ht0 hp0 => ?_)
                        obtain ⟨rfl, rfl⟩ := hp0
                        refine q_eqs (st' := [.int (k_tp bx ln sc k 2)]) rfl ?_
                        refine q_eqR (Rs' := [wX, wO, wA, wB, wL, wH, kw, [(aR, .inl (cI, 12, .inl (upd g4 y (nI (k_tot bx y + k_cnt (fun i => (k_la ln i).1 == y) k + 1)))))]]) rfl ?_
                        refine q_eqs (st' := [.int (nI 1)]) (by rw [show k_tp bx ln sc k 2 = nI 1 from by show q_b (decide (¬ (k_la ln k).1 = (k_la ln k).2)) = nI 1; rw [hy, hz, decide_eq_true hyz]; rfl]) ?_
                        refine q_iconst (v := nI 1) C dL_holds_290 291 rfl (by decide) ?_
                        refine q_icmp_ne C dL_holds_291 294 298 rfl (by decide) (nI_eq (by omega) (by omega)) (fun h291 => False.elim (by first | omega | simp_all)) (fun h291 => ?_)
                        refine q_iconst (v := nI 1) C dL_holds_294 295 rfl (by decide) ?_
                        refine q_goto C dL_holds_295 299 (by decide) ?_
                        refine q_aload_n C dL_holds_299 300 7 rfl rfl ?_
                        refine q_iload C dL_holds_300 302 2 rfl rfl ?_
                        refine q_iconst (v := nI 0) C dL_holds_302 303 rfl (by decide) ?_
                        refine q_callV (k := 0) (ci := 5) (n := 2) (rest := [.int (nI 1)]) (Rr := [wH, kw, [(aR, .inl (cI, 12, .inl (upd g4 y (nI (k_tot bx y + k_cnt (fun i => (k_la ln i).1 == y) k + 1)))))]]) C rfl (k_isX_recv hX) rfl (c_X6_line_c l hZ hI hN h0 aO aY aN hsn aT aK wX hX aB aL aS sc wO hO wA hA bx at0 wB hB ln wL hL k 0 (by omega) (k_has_of hL.1.1 (by omega)) (by omega)) gL_holds_X6_line rfl rfl rfl (by decide +kernel) B.1 ⟨Nat.le_of_ble_eq_true rfl, Nat.le_of_ble_eq_true rfl⟩ rfl rfl (Nat.le_of_ble_eq_true rfl) dL_holds_303 ⟨(Nat.le_of_ble_eq_true rfl), (Nat.le_of_ble_eq_true rfl)⟩ [0, 1, 2, 3, 4] [5, 6, 7] (by decide : ([0, 1, 2, 3, 4] ++ ([5, 6, 7] : List Nat)).Perm (List.range 8)) rfl rfl 306 rfl (fun v0 R0 t0 ht0 hp0 => ?_)
                        obtain ⟨rfl, rfl⟩ := hp0
                        refine q_eqs (st' := [.int (k_tp bx ln sc k 0), .int (nI 1)]) rfl ?_
                        refine q_eqR (Rs' := [wX, wO, wA, wB, wL, wH, kw, [(aR, .inl (cI, 12, .inl (upd g4 y (nI (k_tot bx y + k_cnt (fun i => (k_la ln i).1 == y) k + 1)))))]]) rfl ?_
                        refine q_eqs (st' := [.int (nI y), .int (nI 1)]) (by rw [show k_tp bx ln sc k 0 = nI y from congrArg nI hy]) ?_
                        refine q_aload_n C dL_holds_306 307 7 rfl rfl ?_
                        refine q_iload C dL_holds_307 309 2 rfl rfl ?_
                        refine q_iconst (v := nI 1) C dL_holds_309 310 rfl (by decide) ?_
                        refine q_callV (k := 0) (ci := 5) (n := 2) (rest := [.int (nI y), .int (nI 1)]) (Rr := [wH, kw, [(aR, .inl (cI, 12, .inl (upd g4 y (nI (k_tot bx y + k_cnt (fun i => (k_la ln i).1 == y) k + 1)))))]]) C rfl (k_isX_recv hX) rfl (c_X6_line_c l hZ hI hN h0 aO aY aN hsn aT aK wX hX aB aL aS sc wO hO wA hA bx at0 wB hB ln wL hL k 1 (by omega) (k_has_of hL.1.1 (by omega)) (by omega)) gL_holds_X6_line rfl rfl rfl (by decide +kernel) B.1 ⟨Nat.le_of_ble_eq_true rfl, Nat.le_of_ble_eq_true rfl⟩ rfl rfl (Nat.le_of_ble_eq_true rfl) dL_holds_310 ⟨(Nat.le_of_ble_eq_true rfl), (Nat.le_of_ble_eq_true rfl)⟩ [0, 1, 2, 3, 4] [5, 6, 7] (by decide : ([0, 1, 2, 3, 4] ++ ([5, 6, 7] : List Nat)).Perm (List.range 8)) rfl rfl 313 rfl (fun v0 R0 t0 ht0 hp0 => ?_)
                        obtain ⟨rfl, rfl⟩ := hp0
                        refine q_eqs (st' := [.int (k_tp bx ln sc k 1), .int (nI y), .int (nI 1)]) rfl ?_
                        refine q_eqR (Rs' := [wX, wO, wA, wB, wL, wH, kw, [(aR, .inl (cI, 12, .inl (upd g4 y (nI (k_tot bx y + k_cnt (fun i => (k_la ln i).1 == y) k + 1)))))]]) rfl ?_
                        refine q_eqs (st' := [.int (nI z), .int (nI y), .int (nI 1)]) (by rw [show k_tp bx ln sc k 1 = nI z from congrArg nI hz]) ?_
                        refine q_icmp_eq C dL_holds_313 316 320 rfl (by decide) (nI_eq (by omega) (by omega)) (fun h313 => False.elim (hyz h313)) (fun h313 => ?_)
                        refine q_iconst (v := nI 1) C dL_holds_316 317 rfl (by decide) ?_
                        refine q_goto C dL_holds_317 321 (by decide) ?_
                        refine q_icmp_ne C dL_holds_321 324 358 rfl (by decide) (nI_eq (by omega) (by omega)) (fun h321 => False.elim (by first | omega | simp_all)) (fun h321 => ?_)
                        refine q_aload_n C dL_holds_324 325 7 rfl rfl ?_
                        refine q_iload C dL_holds_325 327 2 rfl rfl ?_
                        refine q_iconst (v := nI 3) C dL_holds_327 328 rfl (by decide) ?_
                        refine q_callV (k := 0) (ci := 5) (n := 2) (rest := []) (Rr := [wH, kw, [(aR, .inl (cI, 12, .inl (upd g4 y (nI (k_tot bx y + k_cnt (fun i => (k_la ln i).1 == y) k + 1)))))]]) C rfl (k_isX_recv hX) rfl (c_X6_line_c l hZ hI hN h0 aO aY aN hsn aT aK wX hX aB aL aS sc wO hO wA hA bx at0 wB hB ln wL hL k 3 (by omega) (k_has_of hL.1.1 (by omega)) (by omega)) gL_holds_X6_line rfl rfl rfl (by decide +kernel) B.1 ⟨Nat.le_of_ble_eq_true rfl, Nat.le_of_ble_eq_true rfl⟩ rfl rfl (Nat.le_of_ble_eq_true rfl) dL_holds_328 ⟨(Nat.le_of_ble_eq_true rfl), (Nat.le_of_ble_eq_true rfl)⟩ [0, 1, 2, 3, 4] [5, 6, 7] (by decide : ([0, 1, 2, 3, 4] ++ ([5, 6, 7] : List Nat)).Perm (List.range 8)) rfl rfl 331 rfl (fun v0 R0 t0 ht0 hp0 => ?_)
                        obtain ⟨rfl, rfl⟩ := hp0
                        refine q_eqs (st' := [.int (k_tp bx ln sc k 3)]) rfl ?_
                        refine q_eqR (Rs' := [wX, wO, wA, wB, wL, wH, kw, [(aR, .inl (cI, 12, .inl (upd g4 y (nI (k_tot bx y + k_cnt (fun i => (k_la ln i).1 == y) k + 1)))))]]) rfl ?_
                        refine q_eqs (st' := [.int (nI (k_wc bx ln sc k))]) (by rw [show k_tp bx ln sc k 3 = nI (k_wc bx ln sc k) from rfl]) ?_
                        refine q_iconst (v := nI 3) C dL_holds_331 332 rfl (by decide) ?_
                        refine q_icmp_ne C dL_holds_332 335 339 rfl (by decide) (nI_eq (by omega) (by omega)) (fun h332 => ?_) (fun h332 => False.elim (k_wc_not3 (by rw [hy, hz]; exact hyz) h332))
                        refine q_iconst (v := nI 0) C dL_holds_339 340 rfl (by decide) ?_
                        refine q_aload_n C dL_holds_340 341 7 rfl rfl ?_
                        refine q_iload C dL_holds_341 343 2 rfl rfl ?_
                        refine q_iconst (v := nI 2) C dL_holds_343 344 rfl (by decide) ?_
                        refine q_callV (k := 0) (ci := 5) (n := 2) (rest := [.int (nI 0)]) (Rr := [wH, kw, [(aR, .inl (cI, 12, .inl (upd g4 y (nI (k_tot bx y + k_cnt (fun i => (k_la ln i).1 == y) k + 1)))))]]) C rfl (k_isX_recv hX) rfl (c_X6_line_c l hZ hI hN h0 aO aY aN hsn aT aK wX hX aB aL aS sc wO hO wA hA bx at0 wB hB ln wL hL k 2 (by omega) (k_has_of hL.1.1 (by omega)) (by omega)) gL_holds_X6_line rfl rfl rfl (by decide +kernel) B.1 ⟨Nat.le_of_ble_eq_true rfl, Nat.le_of_ble_eq_true rfl⟩ rfl rfl (Nat.le_of_ble_eq_true rfl) dL_holds_344 ⟨(Nat.le_of_ble_eq_true rfl), (Nat.le_of_ble_eq_true rfl)⟩ [0, 1, 2, 3, 4] [5, 6, 7] (by decide : ([0, 1, 2, 3, 4] ++ ([5, 6, 7] : List Nat)).Perm (List.range 8)) rfl rfl 347 rfl (fun v0 R0 t0 ht0 hp0 => ?_)
                        obtain ⟨rfl, rfl⟩ := hp0
                        refine q_eqs (st' := [.int (k_tp bx ln sc k 2), .int (nI 0)]) rfl ?_
                        refine q_eqR (Rs' := [wX, wO, wA, wB, wL, wH, kw, [(aR, .inl (cI, 12, .inl (upd g4 y (nI (k_tot bx y + k_cnt (fun i => (k_la ln i).1 == y) k + 1)))))]]) rfl ?_
                        refine q_eqs (st' := [.int (nI 1), .int (nI 0)]) (by rw [show k_tp bx ln sc k 2 = nI 1 from by show q_b (decide (¬ (k_la ln k).1 = (k_la ln k).2)) = nI 1; rw [hy, hz, decide_eq_true hyz]; rfl]) ?_
                        refine q_if_ne C dL_holds_347 350 354 rfl (by decide) (q_eq0 (by omega)) (fun h347 => ?_) (fun h347 => False.elim (by first | omega | simp_all))
                        refine q_iconst (v := nI 0) C dL_holds_354 355 rfl (by decide) ?_
                        refine q_icmp_eq C dL_holds_355 358 360 rfl (by decide) (nI_eq (by omega) (by omega)) (fun h355 => ?_) (fun h355 => False.elim (by first | omega | simp_all))
                        refine q_iinc (v := nI (k + 1)) C dL_holds_360 363 2 rfl rfl (q_ninc1 (by omega)) [(7, .int (nI (k + 1))), (6, .int (nI (wd + k_wd y + 1))), (5, .int (nI (er + 1))), (4, .int (nI al)), (3, .int (nI el)), (2, .int (nI wr)), (1, .ref aR), (0, .ref h0)] (by decide) rfl ?_
                        refine q_goto C dL_holds_363 220 (by decide) ?_
                        refine q_sub (L' := [(7, .int (nI (k + 1))), (6, .int (nI (wd + k_wd y + 1))), (5, .int (nI (er + 1))), (4, .int (nI al)), (3, .int (nI el)), (2, .int (nI wr)), (1, .ref aR), (0, .ref h0)]) [0, 1, 2, 3, 4, 5, 6, 7] rfl ?_
                        exact ih_lp4 (k + 1) (er + 1) (wd + k_wd y + 1) (upd g4 y (nI (k_tot bx y + k_cnt (fun i => (k_la ln i).1 == y) k + 1))) (by omega) (by omega) (by rw [k_cnt_t (by show decide (¬ (k_la ln k).1 = (k_la ln k).2) = true; rw [hy, hz]; exact decide_eq_true hyz)]; omega) (by have h9 := k_np_n ln k; rw [k_sum_s, hy]; omega) (fun x hx => (Decidable.em (x = y)).elim (fun e => by rw [e, pk_us, k_cnt_t (by simp; omega), Nat.add_assoc]) (fun e => by rw [pk_un e, hg4 x hx, k_cnt_f (by simp; omega)]))
              refine q_sub (L' := [(7, .int (nI 0)), (6, .int (nI 0)), (5, .int (nI 0)), (4, .int (nI al)), (3, .int (nI el)), (2, .int (nI wr)), (1, .ref aR), (0, .ref h0)]) [0, 1, 2, 3, 4, 5, 6, 7] rfl ?_
              exact lp4 _ 0 0 0 g2 (Nat.lt_succ_self _) (by omega) rfl rfl (fun x hx => by rw [hg2 x hx, show b = 12 by omega]; rfl)
            · have hlb := (hok b (by omega)).1
              have hwnl := k_wn_le bx ln sc b
              refine q_aload_n C dL_holds_35 36 5 rfl rfl ?_
              refine q_iload C dL_holds_36 38 0 rfl rfl ?_
              refine q_iconst (v := nI 0) C dL_holds_38 39 rfl (by decide) ?_
              refine q_callV (k := 0) (ci := 5) (n := 2) (rest := []) (Rr := [wL, wH, kw, [(aR, .inl (cI, 12, .inl g2))]]) C rfl (k_isX_recv hX) rfl (c_X6_box_c l hZ hI hN h0 aO aY aN hsn aT aK wX hX aB aL aS sc wO hO wA hA bx at0 wB hB b 0 (by omega) (by omega)) gL_holds_X6_box rfl rfl rfl (by decide +kernel) B.1 ⟨Nat.le_of_ble_eq_true rfl, Nat.le_of_ble_eq_true rfl⟩ rfl rfl (Nat.le_of_ble_eq_true rfl) dL_holds_39 ⟨(Nat.le_of_ble_eq_true rfl), (Nat.le_of_ble_eq_true rfl)⟩ [0, 1, 2, 3] [4, 5, 6, 7] (by decide : ([0, 1, 2, 3] ++ ([4, 5, 6, 7] : List Nat)).Perm (List.range 8)) rfl rfl 42 rfl (fun v0 R0 t0 ht0 hp0 => ?_)
              obtain ⟨rfl, rfl⟩ := hp0
              refine q_eqs (st' := [.int (k_tb bx at0 sc b 0)]) rfl ?_
              refine q_eqR (Rs' := [wX, wO, wA, wB, wL, wH, kw, [(aR, .inl (cI, 12, .inl g2))]]) rfl ?_
              refine q_eqs (st' := [.int (nI ((bx b).length))]) (by rw [show k_tb bx at0 sc b 0 = nI ((bx b).length) from rfl]) ?_
              refine q_istore C dL_holds_42 44 rfl [(6, .int (nI ((bx b).length))), (5, .int (nI b)), (4, .int (nI al)), (3, .int (nI el)), (2, .int (nI wr)), (1, .ref aR), (0, .ref h0)] (by decide) rfl ?_
              refine q_iconst (v := nI 0) C dL_holds_44 45 rfl (by decide) ?_
              refine q_istore C dL_holds_45 47 rfl [(7, .int (nI 0)), (6, .int (nI ((bx b).length))), (5, .int (nI b)), (4, .int (nI al)), (3, .int (nI el)), (2, .int (nI wr)), (1, .ref aR), (0, .ref h0)] (by decide) rfl ?_
              refine q_iconst (v := nI 0) C dL_holds_47 48 rfl (by decide) ?_
              refine q_istore C dL_holds_48 50 rfl [(8, .int (nI 0)), (7, .int (nI 0)), (6, .int (nI ((bx b).length))), (5, .int (nI b)), (4, .int (nI al)), (3, .int (nI el)), (2, .int (nI wr)), (1, .ref aR), (0, .ref h0)] (by decide) rfl ?_
              have lp3 : ∀ (kk : Nat) (k : Nat) (ow : Nat) (g3 : Nat → Int32), (bx b).length - k < kk → ∀ (hik : k ≤ (bx b).length), ∀ (how : ow = k_cnt (fun d => k_at (bx b) ((bx b).length - 1 - d) != b) k), ∀ (hg3 : ∀ x, x < 12 → g3 x = nI (k_sum (fun c => (bx c).count x) b + k_cnt (fun d => k_at (bx b) ((bx b).length - 1 - d) == x) k)), q_V p9 l e9 R s9 m9 args below meth c9 D A 10 Q 0 0 50 [(8, .int (nI k)), (7, .int (nI ow)), (6, .int (nI ((bx b).length))), (5, .int (nI b)), (4, .int (nI al)), (3, .int (nI el)), (2, .int (nI wr)), (1, .ref aR), (0, .ref h0)] [] [wX, wO, wA, wB, wL, wH, kw, [(aR, .inl (cI, 12, .inl g3))]] := by
                intro kk
                induction kk with
                | zero => intro k ow g3 hkk; exact absurd hkk (Nat.not_lt_zero _)
                | succ kk ih_lp3 =>
                  intro k ow g3 hkk hik how hg3
                  refine q_iload C dL_holds_50 52 0 rfl rfl ?_
                  refine q_iload C dL_holds_52 54 2 rfl rfl ?_
                  refine q_icmp_ge C dL_holds_54 57 98 rfl (by decide) (nI_leI (by omega) (by omega)) (fun h54 => ?_) (fun h54 => ?_)
                  · have hk9 : k = (bx b).length := by omega
                    have how9 : ow = k_wi bx b := by rw [how, hk9]; exact k_cnt_own bx b
                    have hwl9 := k_wi_le bx b
                    refine q_iload C dL_holds_98 100 4 rfl rfl ?_
                    refine q_iload C dL_holds_100 102 2 rfl rfl ?_
                    refine q_iadd (v := nI (al + (bx b).length)) C dL_holds_102 103 rfl (q_nadd (by omega)) ?_
                    refine q_istore C dL_holds_103 105 rfl [(4, .int (nI (al + (bx b).length))), (8, .int (nI k)), (7, .int (nI ow)), (6, .int (nI ((bx b).length))), (5, .int (nI b)), (3, .int (nI el)), (2, .int (nI wr)), (1, .ref aR), (0, .ref h0)] (by decide) rfl ?_
                    refine q_iload_n C dL_holds_105 106 6 rfl rfl ?_
                    refine q_iload C dL_holds_106 108 2 rfl rfl ?_
                    refine q_iadd (v := nI (wr + ow)) C dL_holds_108 109 rfl (q_nadd (by omega)) ?_
                    refine q_istore_n C dL_holds_109 110 rfl [(2, .int (nI (wr + ow))), (4, .int (nI (al + (bx b).length))), (8, .int (nI k)), (7, .int (nI ow)), (6, .int (nI ((bx b).length))), (5, .int (nI b)), (3, .int (nI el)), (1, .ref aR), (0, .ref h0)] (by decide) rfl ?_
                    refine q_iload_n C dL_holds_110 111 6 rfl rfl ?_
                    refine q_aload_n C dL_holds_111 112 8 rfl rfl ?_
                    refine q_iload C dL_holds_112 114 5 rfl rfl ?_
                    refine q_bipush (v := nI 6) C dL_holds_114 116 rfl (by decide) ?_
                    refine q_callV (k := 0) (ci := 5) (n := 2) (rest := [.int (nI el)]) (Rr := [wL, wH, kw, [(aR, .inl (cI, 12, .inl g3))]]) C rfl (k_isX_recv hX) rfl (c_X6_box_c l hZ hI hN h0 aO aY aN hsn aT aK wX hX aB aL aS sc wO hO wA hA bx at0 wB hB b 6 (by omega) (by omega)) gL_holds_X6_box rfl rfl rfl (by decide +kernel) B.1 ⟨Nat.le_of_ble_eq_true rfl, Nat.le_of_ble_eq_true rfl⟩ rfl rfl (Nat.le_of_ble_eq_true rfl) dL_holds_116 ⟨(Nat.le_of_ble_eq_true rfl), (Nat.le_of_ble_eq_true rfl)⟩ [0, 1, 2, 3] [4, 5, 6, 7] (by decide : ([0, 1, 2, 3] ++ ([4, 5, 6, 7] : List Nat)).Perm (List.range 8)) rfl rfl 119 rfl (fun v0 R0 t0 ht0 hp0 => ?_)
                    obtain ⟨rfl, rfl⟩ := hp0
                    refine q_eqs (st' := [.int (k_tb bx at0 sc b 6), .int (nI el)]) rfl ?_
                    refine q_eqR (Rs' := [wX, wO, wA, wB, wL, wH, kw, [(aR, .inl (cI, 12, .inl g3))]]) rfl ?_
                    refine q_eqs (st' := [.int (nI (k_st bx b)), .int (nI el)]) (by rw [show k_tb bx at0 sc b 6 = nI (k_st bx b) from rfl]) ?_
                    refine q_iadd (v := nI (el + k_st bx b)) C dL_holds_119 120 rfl (q_nadd (by omega)) ?_
                    refine q_istore_n C dL_holds_120 121 rfl [(3, .int (nI (el + k_st bx b))), (2, .int (nI (wr + ow))), (4, .int (nI (al + (bx b).length))), (8, .int (nI k)), (7, .int (nI ow)), (6, .int (nI ((bx b).length))), (5, .int (nI b)), (1, .ref aR), (0, .ref h0)] (by decide) rfl ?_
                    refine q_iload C dL_holds_121 123 5 rfl rfl ?_
                    refine q_bipush (v := nI 20) C dL_holds_123 125 rfl (by decide) ?_
                    refine q_icmp_gt C dL_holds_125 128 203 rfl (by decide) (nI_ltI (by omega) (by omega)) (fun h125 => False.elim (by first | omega | simp_all)) (fun h125 => ?_)
                    refine q_iload C dL_holds_128 130 4 rfl rfl ?_
                    refine q_aload_n C dL_holds_130 131 8 rfl rfl ?_
                    refine q_iload C dL_holds_131 133 6 rfl rfl ?_
                    refine q_iconst (v := nI 1) C dL_holds_133 134 rfl (by decide) ?_
                    refine q_callV (k := 0) (ci := 5) (n := 2) (rest := [.int (nI ow)]) (Rr := [wL, wH, kw, [(aR, .inl (cI, 12, .inl g3))]]) C rfl (k_isX_recv hX) rfl (c_X6_box_c l hZ hI hN h0 aO aY aN hsn aT aK wX hX aB aL aS sc wO hO wA hA bx at0 wB hB b 1 (by omega) (by omega)) gL_holds_X6_box rfl rfl rfl (by decide +kernel) B.1 ⟨Nat.le_of_ble_eq_true rfl, Nat.le_of_ble_eq_true rfl⟩ rfl rfl (Nat.le_of_ble_eq_true rfl) dL_holds_134 ⟨(Nat.le_of_ble_eq_true rfl), (Nat.le_of_ble_eq_true rfl)⟩ [0, 1, 2, 3] [4, 5, 6, 7] (by decide : ([0, 1, 2, 3] ++ ([4, 5, 6, 7] : List Nat)).Perm (List.range 8)) rfl rfl 137 rfl (fun v0 R0 t0 ht0 hp0 => ?_)
                    obtain ⟨rfl, rfl⟩ := hp0
                    refine q_eqs (st' := [.int (k_tb bx at0 sc b 1), .int (nI ow)]) rfl ?_
                    refine q_eqR (Rs' := [wX, wO, wA, wB, wL, wH, kw, [(aR, .inl (cI, 12, .inl g3))]]) rfl ?_
                    refine q_eqs (st' := [.int (nI (k_wi bx b)), .int (nI ow)]) (by rw [show k_tb bx at0 sc b 1 = nI (k_wi bx b) from rfl]) ?_
                    refine q_icmp_ne C dL_holds_137 140 203 rfl (by decide) (nI_eq (by omega) (by omega)) (fun h137 => False.elim (by first | omega | simp_all)) (fun h137 => ?_)
                    refine q_aload_n C dL_holds_140 141 8 rfl rfl ?_
                    refine q_iload C dL_holds_141 143 6 rfl rfl ?_
                    refine q_iconst (v := nI 4) C dL_holds_143 144 rfl (by decide) ?_
                    refine q_callV (k := 0) (ci := 5) (n := 2) (rest := []) (Rr := [wL, wH, kw, [(aR, .inl (cI, 12, .inl g3))]]) C rfl (k_isX_recv hX) rfl (c_X6_box_c l hZ hI hN h0 aO aY aN hsn aT aK wX hX aB aL aS sc wO hO wA hA bx at0 wB hB b 4 (by omega) (by omega)) gL_holds_X6_box rfl rfl rfl (by decide +kernel) B.1 ⟨Nat.le_of_ble_eq_true rfl, Nat.le_of_ble_eq_true rfl⟩ rfl rfl (Nat.le_of_ble_eq_true rfl) dL_holds_144 ⟨(Nat.le_of_ble_eq_true rfl), (Nat.le_of_ble_eq_true rfl)⟩ [0, 1, 2, 3] [4, 5, 6, 7] (by decide : ([0, 1, 2, 3] ++ ([4, 5, 6, 7] : List Nat)).Perm (List.range 8)) rfl rfl 147 rfl (fun v0 R0 t0 ht0 hp0 => ?_)
                    obtain ⟨rfl, rfl⟩ := hp0
                    refine q_eqs (st' := [.int (k_tb bx at0 sc b 4)]) rfl ?_
                    refine q_eqR (Rs' := [wX, wO, wA, wB, wL, wH, kw, [(aR, .inl (cI, 12, .inl g3))]]) rfl ?_
                    by_cases hh : sc 3 = nI b
                    · refine q_eqs (st' := [.int (nI 1)]) (by rw [show k_tb bx at0 sc b 4 = nI 1 from by show q_b (decide (sc 3 = nI b)) = nI 1; rw [decide_eq_true hh]; rfl]) ?_
                      refine q_iconst (v := nI 1) C dL_holds_147 148 rfl (by decide) ?_
                      refine q_icmp_ne C dL_holds_148 151 155 rfl (by decide) (nI_eq (by omega) (by omega)) (fun h148 => False.elim (by first | omega | simp_all)) (fun h148 => ?_)
                      refine q_iconst (v := nI 1) C dL_holds_151 152 rfl (by decide) ?_
                      refine q_goto C dL_holds_152 156 (by decide) ?_
                      refine q_aload_n C dL_holds_156 157 8 rfl rfl ?_
                      refine q_bipush (v := nI 7) C dL_holds_157 159 rfl (by decide) ?_
                      refine q_callV (k := 0) (ci := 5) (n := 1) (rest := [.int (nI 1)]) (Rr := [kw, [(aR, .inl (cI, 12, .inl g3))]]) C rfl (k_isX_recv hX) rfl (c_X6_count_h l hZ hI hN hG h0 aO aY aN hsn aT aK wX hX aB aL aS sc wO hO wA hA bx at0 wB hB ln wL hL sv wH hH 7 (by omega) hcs hws) gL_holds_X6_count rfl rfl rfl (by decide +kernel) B.1 ⟨Nat.le_of_ble_eq_true rfl, Nat.le_of_ble_eq_true rfl⟩ rfl rfl (Nat.le_of_ble_eq_true rfl) dL_holds_159 ⟨(Nat.le_of_ble_eq_true rfl), (Nat.le_of_ble_eq_true rfl)⟩ [0, 1, 2, 3, 4, 5] [6, 7] (by decide : ([0, 1, 2, 3, 4, 5] ++ ([6, 7] : List Nat)).Perm (List.range 8)) rfl rfl 162 rfl (fun v0 R0 t0 ht0 hp0 => ?_)
                      obtain ⟨rfl, rfl⟩ := hp0
                      refine q_eqs (st' := [.int (k_tc bx at0 ln sc sv.length 7), .int (nI 1)]) rfl ?_
                      refine q_eqR (Rs' := [wX, wO, wA, wB, wL, wH, kw, [(aR, .inl (cI, 12, .inl g3))]]) rfl ?_
                      refine q_eqs (st' := [.int (nI b), .int (nI 1)]) (by rw [show k_tc bx at0 ln sc sv.length 7 = nI b from hh]) ?_
                      refine q_iload C dL_holds_162 164 6 rfl rfl ?_
                      refine q_icmp_ne C dL_holds_164 167 171 rfl (by decide) (nI_eq (by omega) (by omega)) (fun h164 => False.elim (by first | omega | simp_all)) (fun h164 => ?_)
                      refine q_iconst (v := nI 1) C dL_holds_167 168 rfl (by decide) ?_
                      refine q_goto C dL_holds_168 172 (by decide) ?_
                      refine q_icmp_ne C dL_holds_172 175 203 rfl (by decide) (nI_eq (by omega) (by omega)) (fun h172 => False.elim (by first | omega | simp_all)) (fun h172 => ?_)
                      refine q_aload_n C dL_holds_175 176 8 rfl rfl ?_
                      refine q_iload C dL_holds_176 178 6 rfl rfl ?_
                      refine q_callV (k := 0) (ci := 5) (n := 1) (rest := []) (Rr := [wH, kw, [(aR, .inl (cI, 12, .inl g3))]]) C rfl (k_isX_recv hX) rfl (c_X6_whyNot_b l hZ hI hN h0 aO aY aN hsn aT aK wX hX aB aL aS sc wO hO wA hA bx at0 wB hB ln wL hL b (by omega)) gL_holds_X6_whyNot rfl rfl rfl (by decide +kernel) B.1 ⟨Nat.le_of_ble_eq_true rfl, Nat.le_of_ble_eq_true rfl⟩ rfl rfl (Nat.le_of_ble_eq_true rfl) dL_holds_178 ⟨(Nat.le_of_ble_eq_true rfl), (Nat.le_of_ble_eq_true rfl)⟩ [0, 1, 2, 3, 4] [5, 6, 7] (by decide : ([0, 1, 2, 3, 4] ++ ([5, 6, 7] : List Nat)).Perm (List.range 8)) rfl rfl 181 rfl (fun v0 R0 t0 ht0 hp0 => ?_)
                      obtain ⟨rfl, rfl⟩ := hp0
                      refine q_eqs (st' := [.int (nI (k_wn bx ln sc b))]) rfl ?_
                      refine q_eqR (Rs' := [wX, wO, wA, wB, wL, wH, kw, [(aR, .inl (cI, 12, .inl g3))]]) rfl ?_
                      by_cases he : (bx b).length = 0
                      · refine q_eqs (st' := [.int (nI 1)]) (by rw [show nI (k_wn bx ln sc b) = nI 1 from by rw [k_wn_1 he]]) ?_
                        refine q_iconst (v := nI 1) C dL_holds_181 182 rfl (by decide) ?_
                        refine q_icmp_ne C dL_holds_182 185 189 rfl (by decide) (nI_eq (by omega) (by omega)) (fun h182 => False.elim (by first | omega | simp_all)) (fun h182 => ?_)
                        refine q_iconst (v := nI 1) C dL_holds_185 186 rfl (by decide) ?_
                        refine q_goto C dL_holds_186 190 (by decide) ?_
                        refine q_iload C dL_holds_190 192 5 rfl rfl ?_
                        refine q_if_ne C dL_holds_192 195 199 rfl (by decide) (q_eq0 (by omega)) (fun h192 => False.elim (by first | omega | simp_all)) (fun h192 => ?_)
                        refine q_iconst (v := nI 1) C dL_holds_195 196 rfl (by decide) ?_
                        refine q_goto C dL_holds_196 200 (by decide) ?_
                        refine q_icmp_eq C dL_holds_200 203 205 rfl (by decide) (nI_eq (by omega) (by omega)) (fun h200 => ?_) (fun h200 => False.elim (by first | omega | simp_all))
                        refine q_iinc (v := nI (b + 1)) C dL_holds_205 208 6 rfl rfl (q_ninc1 (by omega)) [(5, .int (nI (b + 1))), (3, .int (nI (el + k_st bx b))), (2, .int (nI (wr + ow))), (4, .int (nI (al + (bx b).length))), (8, .int (nI k)), (7, .int (nI ow)), (6, .int (nI ((bx b).length))), (1, .ref aR), (0, .ref h0)] (by decide) rfl ?_
                        refine q_goto C dL_holds_208 28 (by decide) ?_
                        refine q_sub (L' := [(5, .int (nI (b + 1))), (4, .int (nI (al + (bx b).length))), (3, .int (nI (el + k_st bx b))), (2, .int (nI (wr + ow))), (1, .ref aR), (0, .ref h0)]) [0, 3, 1, 2, 7, 8] rfl ?_
                        exact ih_lp2 (b + 1) (wr + ow) (el + k_st bx b) (al + (bx b).length) g3 (by omega) (by omega) (by rw [k_sum_s]; omega) (by rw [k_sum_s]; omega) (by rw [k_sum_s]; omega) (fun x hx => by rw [hg3 x hx, hk9, k_cnt_box, k_sum_s])
                      · refine q_iconst (v := nI 1) C dL_holds_181 182 rfl (by decide) ?_
                        refine q_icmp_ne C dL_holds_182 185 189 rfl (by decide) (nI_eq (by omega) (by omega)) (fun h182 => ?_) (fun h182 => False.elim (k_wn_not1 (by omega) h182))
                        refine q_iconst (v := nI 0) C dL_holds_189 190 rfl (by decide) ?_
                        refine q_iload C dL_holds_190 192 5 rfl rfl ?_
                        refine q_if_ne C dL_holds_192 195 199 rfl (by decide) (q_eq0 (by omega)) (fun h192 => ?_) (fun h192 => False.elim (by first | omega | simp_all))
                        refine q_iconst (v := nI 0) C dL_holds_199 200 rfl (by decide) ?_
                        refine q_icmp_eq C dL_holds_200 203 205 rfl (by decide) (nI_eq (by omega) (by omega)) (fun h200 => ?_) (fun h200 => False.elim (by first | omega | simp_all))
                        refine q_iinc (v := nI (b + 1)) C dL_holds_205 208 6 rfl rfl (q_ninc1 (by omega)) [(5, .int (nI (b + 1))), (3, .int (nI (el + k_st bx b))), (2, .int (nI (wr + ow))), (4, .int (nI (al + (bx b).length))), (8, .int (nI k)), (7, .int (nI ow)), (6, .int (nI ((bx b).length))), (1, .ref aR), (0, .ref h0)] (by decide) rfl ?_
                        refine q_goto C dL_holds_208 28 (by decide) ?_
                        refine q_sub (L' := [(5, .int (nI (b + 1))), (4, .int (nI (al + (bx b).length))), (3, .int (nI (el + k_st bx b))), (2, .int (nI (wr + ow))), (1, .ref aR), (0, .ref h0)]) [0, 3, 1, 2, 7, 8] rfl ?_
                        exact ih_lp2 (b + 1) (wr + ow) (el + k_st bx b) (al + (bx b).length) g3 (by omega) (by omega) (by rw [k_sum_s]; omega) (by rw [k_sum_s]; omega) (by rw [k_sum_s]; omega) (fun x hx => by rw [hg3 x hx, hk9, k_cnt_box, k_sum_s])
                    · refine q_eqs (st' := [.int (nI 0)]) (by rw [show k_tb bx at0 sc b 4 = nI 0 from by show q_b (decide (sc 3 = nI b)) = nI 0; rw [decide_eq_false hh]; rfl]) ?_
                      refine q_iconst (v := nI 1) C dL_holds_147 148 rfl (by decide) ?_
                      refine q_icmp_ne C dL_holds_148 151 155 rfl (by decide) (nI_eq (by omega) (by omega)) (fun h148 => ?_) (fun h148 => False.elim (by first | omega | simp_all))
                      refine q_iconst (v := nI 0) C dL_holds_155 156 rfl (by decide) ?_
                      refine q_aload_n C dL_holds_156 157 8 rfl rfl ?_
                      refine q_bipush (v := nI 7) C dL_holds_157 159 rfl (by decide) ?_
                      refine q_callV (k := 0) (ci := 5) (n := 1) (rest := [.int (nI 0)]) (Rr := [kw, [(aR, .inl (cI, 12, .inl g3))]]) C rfl (k_isX_recv hX) rfl (c_X6_count_h l hZ hI hN hG h0 aO aY aN hsn aT aK wX hX aB aL aS sc wO hO wA hA bx at0 wB hB ln wL hL sv wH hH 7 (by omega) hcs hws) gL_holds_X6_count rfl rfl rfl (by decide +kernel) B.1 ⟨Nat.le_of_ble_eq_true rfl, Nat.le_of_ble_eq_true rfl⟩ rfl rfl (Nat.le_of_ble_eq_true rfl) dL_holds_159 ⟨(Nat.le_of_ble_eq_true rfl), (Nat.le_of_ble_eq_true rfl)⟩ [0, 1, 2, 3, 4, 5] [6, 7] (by decide : ([0, 1, 2, 3, 4, 5] ++ ([6, 7] : List Nat)).Perm (List.range 8)) rfl rfl 162 rfl (fun v0 R0 t0 ht0 hp0 => ?_)
                      obtain ⟨rfl, rfl⟩ := hp0
                      refine q_eqs (st' := [.int (k_tc bx at0 ln sc sv.length 7), .int (nI 0)]) rfl ?_
                      refine q_eqR (Rs' := [wX, wO, wA, wB, wL, wH, kw, [(aR, .inl (cI, 12, .inl g3))]]) rfl ?_
                      refine q_eqs (st' := [.int (sc 3), .int (nI 0)]) (by rw [show k_tc bx at0 ln sc sv.length 7 = sc 3 from rfl]) ?_
                      refine q_iload C dL_holds_162 164 6 rfl rfl ?_
                      refine q_icmp_ne C dL_holds_164 167 171 rfl (by decide) Iff.rfl (fun h164 => ?_) (fun h164 => False.elim (hh h164))
                      refine q_iconst (v := nI 0) C dL_holds_171 172 rfl (by decide) ?_
                      refine q_icmp_ne C dL_holds_172 175 203 rfl (by decide) (nI_eq (by omega) (by omega)) (fun h172 => False.elim (by first | omega | simp_all)) (fun h172 => ?_)
                      refine q_aload_n C dL_holds_175 176 8 rfl rfl ?_
                      refine q_iload C dL_holds_176 178 6 rfl rfl ?_
                      refine q_callV (k := 0) (ci := 5) (n := 1) (rest := []) (Rr := [wH, kw, [(aR, .inl (cI, 12, .inl g3))]]) C rfl (k_isX_recv hX) rfl (c_X6_whyNot_b l hZ hI hN h0 aO aY aN hsn aT aK wX hX aB aL aS sc wO hO wA hA bx at0 wB hB ln wL hL b (by omega)) gL_holds_X6_whyNot rfl rfl rfl (by decide +kernel) B.1 ⟨Nat.le_of_ble_eq_true rfl, Nat.le_of_ble_eq_true rfl⟩ rfl rfl (Nat.le_of_ble_eq_true rfl) dL_holds_178 ⟨(Nat.le_of_ble_eq_true rfl), (Nat.le_of_ble_eq_true rfl)⟩ [0, 1, 2, 3, 4] [5, 6, 7] (by decide : ([0, 1, 2, 3, 4] ++ ([5, 6, 7] : List Nat)).Perm (List.range 8)) rfl rfl 181 rfl (fun v0 R0 t0 ht0 hp0 => ?_)
                      obtain ⟨rfl, rfl⟩ := hp0
                      refine q_eqs (st' := [.int (nI (k_wn bx ln sc b))]) rfl ?_
                      refine q_eqR (Rs' := [wX, wO, wA, wB, wL, wH, kw, [(aR, .inl (cI, 12, .inl g3))]]) rfl ?_
                      by_cases he : (bx b).length = 0
                      · refine q_eqs (st' := [.int (nI 1)]) (by rw [show nI (k_wn bx ln sc b) = nI 1 from by rw [k_wn_1 he]]) ?_
                        refine q_iconst (v := nI 1) C dL_holds_181 182 rfl (by decide) ?_
                        refine q_icmp_ne C dL_holds_182 185 189 rfl (by decide) (nI_eq (by omega) (by omega)) (fun h182 => False.elim (by first | omega | simp_all)) (fun h182 => ?_)
                        refine q_iconst (v := nI 1) C dL_holds_185 186 rfl (by decide) ?_
                        refine q_goto C dL_holds_186 190 (by decide) ?_
                        refine q_iload C dL_holds_190 192 5 rfl rfl ?_
                        refine q_if_ne C dL_holds_192 195 199 rfl (by decide) (q_eq0 (by omega)) (fun h192 => False.elim (by first | omega | simp_all)) (fun h192 => ?_)
                        refine q_iconst (v := nI 1) C dL_holds_195 196 rfl (by decide) ?_
                        refine q_goto C dL_holds_196 200 (by decide) ?_
                        refine q_icmp_eq C dL_holds_200 203 205 rfl (by decide) (nI_eq (by omega) (by omega)) (fun h200 => ?_) (fun h200 => False.elim (by first | omega | simp_all))
                        refine q_iinc (v := nI (b + 1)) C dL_holds_205 208 6 rfl rfl (q_ninc1 (by omega)) [(5, .int (nI (b + 1))), (3, .int (nI (el + k_st bx b))), (2, .int (nI (wr + ow))), (4, .int (nI (al + (bx b).length))), (8, .int (nI k)), (7, .int (nI ow)), (6, .int (nI ((bx b).length))), (1, .ref aR), (0, .ref h0)] (by decide) rfl ?_
                        refine q_goto C dL_holds_208 28 (by decide) ?_
                        refine q_sub (L' := [(5, .int (nI (b + 1))), (4, .int (nI (al + (bx b).length))), (3, .int (nI (el + k_st bx b))), (2, .int (nI (wr + ow))), (1, .ref aR), (0, .ref h0)]) [0, 3, 1, 2, 7, 8] rfl ?_
                        exact ih_lp2 (b + 1) (wr + ow) (el + k_st bx b) (al + (bx b).length) g3 (by omega) (by omega) (by rw [k_sum_s]; omega) (by rw [k_sum_s]; omega) (by rw [k_sum_s]; omega) (fun x hx => by rw [hg3 x hx, hk9, k_cnt_box, k_sum_s])
                      · refine q_iconst (v := nI 1) C dL_holds_181 182 rfl (by decide) ?_
                        refine q_icmp_ne C dL_holds_182 185 189 rfl (by decide) (nI_eq (by omega) (by omega)) (fun h182 => ?_) (fun h182 => False.elim (k_wn_not1 (by omega) h182))
                        refine q_iconst (v := nI 0) C dL_holds_189 190 rfl (by decide) ?_
                        refine q_iload C dL_holds_190 192 5 rfl rfl ?_
                        refine q_if_ne C dL_holds_192 195 199 rfl (by decide) (q_eq0 (by omega)) (fun h192 => ?_) (fun h192 => False.elim (by first | omega | simp_all))
                        refine q_iconst (v := nI 0) C dL_holds_199 200 rfl (by decide) ?_
                        refine q_icmp_eq C dL_holds_200 203 205 rfl (by decide) (nI_eq (by omega) (by omega)) (fun h200 => ?_) (fun h200 => False.elim (by first | omega | simp_all))
                        refine q_iinc (v := nI (b + 1)) C dL_holds_205 208 6 rfl rfl (q_ninc1 (by omega)) [(5, .int (nI (b + 1))), (3, .int (nI (el + k_st bx b))), (2, .int (nI (wr + ow))), (4, .int (nI (al + (bx b).length))), (8, .int (nI k)), (7, .int (nI ow)), (6, .int (nI ((bx b).length))), (1, .ref aR), (0, .ref h0)] (by decide) rfl ?_
                        refine q_goto C dL_holds_208 28 (by decide) ?_
                        refine q_sub (L' := [(5, .int (nI (b + 1))), (4, .int (nI (al + (bx b).length))), (3, .int (nI (el + k_st bx b))), (2, .int (nI (wr + ow))), (1, .ref aR), (0, .ref h0)]) [0, 3, 1, 2, 7, 8] rfl ?_
                        exact ih_lp2 (b + 1) (wr + ow) (el + k_st bx b) (al + (bx b).length) g3 (by omega) (by omega) (by rw [k_sum_s]; omega) (by rw [k_sum_s]; omega) (by rw [k_sum_s]; omega) (fun x hx => by rw [hg3 x hx, hk9, k_cnt_box, k_sum_s])
                  · refine q_aload_n C dL_holds_57 58 8 rfl rfl ?_
                    refine q_iload C dL_holds_58 60 3 rfl rfl ?_
                    refine q_iload C dL_holds_60 62 0 rfl rfl ?_
                    refine q_callV (k := 0) (ci := 5) (n := 2) (rest := []) (Rr := [wL, wH, kw, [(aR, .inl (cI, 12, .inl g3))]]) C rfl (k_isX_recv hX) rfl (c_X6_type_c l hZ hI hN h0 aO aY aN hsn aT aK wX hX aB aL aS sc wO hO wA hA bx at0 wB hB b k (by omega) (by omega)) gL_holds_X6_type rfl rfl rfl (by decide +kernel) B.1 ⟨Nat.le_of_ble_eq_true rfl, Nat.le_of_ble_eq_true rfl⟩ rfl rfl (Nat.le_of_ble_eq_true rfl) dL_holds_62 ⟨(Nat.le_of_ble_eq_true rfl), (Nat.le_of_ble_eq_true rfl)⟩ [0, 1, 2, 3] [4, 5, 6, 7] (by decide : ([0, 1, 2, 3] ++ ([4, 5, 6, 7] : List Nat)).Perm (List.range 8)) rfl rfl 65 rfl (fun v0 R0 t0 ht0 hp0 => ?_)
                    obtain ⟨rfl, rfl⟩ := hp0
                    refine q_eqs (st' := [.int (k_top bx b k)]) rfl ?_
                    refine q_eqR (Rs' := [wX, wO, wA, wB, wL, wH, kw, [(aR, .inl (cI, 12, .inl g3))]]) rfl ?_
                    have htp : k_top bx b k = nI (k_at (bx b) ((bx b).length - 1 - k)) := k_top_some (by omega)
                    have htl := k_at_lt (hok b (by omega)).2 (show (bx b).length - 1 - k < (bx b).length by omega)
                    obtain ⟨t, ht⟩ : ∃ t, t = k_at (bx b) ((bx b).length - 1 - k) := ⟨_, rfl⟩
                    rw [← ht] at htp htl
                    refine q_eqs (st' := [.int (nI t)]) (by rw [htp]) ?_
                    refine q_istore C dL_holds_65 67 rfl [(9, .int (nI t)), (8, .int (nI k)), (7, .int (nI ow)), (6, .int (nI ((bx b).length))), (5, .int (nI b)), (4, .int (nI al)), (3, .int (nI el)), (2, .int (nI wr)), (1, .ref aR), (0, .ref h0)] (by decide) rfl ?_
                    refine q_aload_n C dL_holds_67 68 8 rfl rfl ?_
                    refine q_iload C dL_holds_68 70 0 rfl rfl ?_
                    refine q_dup2 C dL_holds_70 71 rfl rfl rfl ?_
                    refine q_iald (k := 7) (j := 0) (v := nI (k_sum (fun c => (bx c).count t) b + k_cnt (fun d => k_at (bx b) ((bx b).length - 1 - d) == t) k)) C dL_holds_71 72 rfl rfl rfl hcI t rfl (by omega) (by decide) (hg3 t htl) ?_
                    refine q_iconst (v := nI 1) C dL_holds_72 73 rfl (by decide) ?_
                    refine q_iadd (v := nI (k_sum (fun c => (bx c).count t) b + k_cnt (fun d => k_at (bx b) ((bx b).length - 1 - d) == t) k + 1)) C dL_holds_73 74 rfl (q_nadd (by omega)) ?_
                    refine q_iast (k := 7) (j := 0) C dL_holds_74 75 rfl rfl rfl hcI t rfl (by omega) (by decide) [wX, wO, wA, wB, wL, wH, kw, [(aR, .inl (cI, 12, .inl (upd g3 t (nI (k_sum (fun c => (bx c).count t) b + k_cnt (fun d => k_at (bx b) ((bx b).length - 1 - d) == t) k + 1)))))]] rfl ?_
                    refine q_iload C dL_holds_75 77 2 rfl rfl ?_
                    refine q_iload C dL_holds_77 79 0 rfl rfl ?_
                    refine q_iload C dL_holds_79 81 4 rfl rfl ?_
                    refine q_icmp_ne C dL_holds_81 84 88 rfl (by decide) (nI_eq (by omega) (by omega)) (fun h81 => ?_) (fun h81 => ?_)
                    · refine q_iconst (v := nI 1) C dL_holds_88 89 rfl (by decide) ?_
                      refine q_iadd (v := nI (ow + 1)) C dL_holds_89 90 rfl (q_nadd (by omega)) ?_
                      refine q_istore C dL_holds_90 92 rfl [(7, .int (nI (ow + 1))), (9, .int (nI t)), (8, .int (nI k)), (6, .int (nI ((bx b).length))), (5, .int (nI b)), (4, .int (nI al)), (3, .int (nI el)), (2, .int (nI wr)), (1, .ref aR), (0, .ref h0)] (by decide) rfl ?_
                      refine q_iinc (v := nI (k + 1)) C dL_holds_92 95 2 rfl rfl (q_ninc1 (by omega)) [(8, .int (nI (k + 1))), (7, .int (nI (ow + 1))), (9, .int (nI t)), (6, .int (nI ((bx b).length))), (5, .int (nI b)), (4, .int (nI al)), (3, .int (nI el)), (2, .int (nI wr)), (1, .ref aR), (0, .ref h0)] (by decide) rfl ?_
                      refine q_goto C dL_holds_95 50 (by decide) ?_
                      refine q_sub (L' := [(8, .int (nI (k + 1))), (7, .int (nI (ow + 1))), (6, .int (nI ((bx b).length))), (5, .int (nI b)), (4, .int (nI al)), (3, .int (nI el)), (2, .int (nI wr)), (1, .ref aR), (0, .ref h0)]) [0, 1, 3, 4, 5, 6, 7, 8, 9] rfl ?_
                      exact ih_lp3 (k + 1) (ow + 1) (upd g3 t (nI (k_sum (fun c => (bx c).count t) b + k_cnt (fun d => k_at (bx b) ((bx b).length - 1 - d) == t) k + 1))) (by omega) (by omega) (by first | (rw [k_cnt_t (by simp; omega)]; omega) | (rw [k_cnt_f (by simp; omega)]; omega)) (fun x hx => (Decidable.em (x = t)).elim (fun e => by rw [e, pk_us, k_cnt_t (by simp; omega), Nat.add_assoc]) (fun e => by rw [pk_un e, hg3 x hx, k_cnt_f (by simp; omega)]))
                    · refine q_iconst (v := nI 0) C dL_holds_84 85 rfl (by decide) ?_
                      refine q_goto C dL_holds_85 89 (by decide) ?_
                      refine q_iadd (v := nI ow) C dL_holds_89 90 rfl (q_nadd (by omega)) ?_
                      refine q_istore C dL_holds_90 92 rfl [(7, .int (nI ow)), (9, .int (nI t)), (8, .int (nI k)), (6, .int (nI ((bx b).length))), (5, .int (nI b)), (4, .int (nI al)), (3, .int (nI el)), (2, .int (nI wr)), (1, .ref aR), (0, .ref h0)] (by decide) rfl ?_
                      refine q_iinc (v := nI (k + 1)) C dL_holds_92 95 2 rfl rfl (q_ninc1 (by omega)) [(8, .int (nI (k + 1))), (7, .int (nI ow)), (9, .int (nI t)), (6, .int (nI ((bx b).length))), (5, .int (nI b)), (4, .int (nI al)), (3, .int (nI el)), (2, .int (nI wr)), (1, .ref aR), (0, .ref h0)] (by decide) rfl ?_
                      refine q_goto C dL_holds_95 50 (by decide) ?_
                      refine q_sub (L' := [(8, .int (nI (k + 1))), (7, .int (nI ow)), (6, .int (nI ((bx b).length))), (5, .int (nI b)), (4, .int (nI al)), (3, .int (nI el)), (2, .int (nI wr)), (1, .ref aR), (0, .ref h0)]) [0, 1, 3, 4, 5, 6, 7, 8, 9] rfl ?_
                      exact ih_lp3 (k + 1) ow (upd g3 t (nI (k_sum (fun c => (bx c).count t) b + k_cnt (fun d => k_at (bx b) ((bx b).length - 1 - d) == t) k + 1))) (by omega) (by omega) (by first | (rw [k_cnt_t (by simp; omega)]; omega) | (rw [k_cnt_f (by simp; omega)]; omega)) (fun x hx => (Decidable.em (x = t)).elim (fun e => by rw [e, pk_us, k_cnt_t (by simp; omega), Nat.add_assoc]) (fun e => by rw [pk_un e, hg3 x hx, k_cnt_f (by simp; omega)]))
              refine q_sub (L' := [(8, .int (nI 0)), (7, .int (nI 0)), (6, .int (nI ((bx b).length))), (5, .int (nI b)), (4, .int (nI al)), (3, .int (nI el)), (2, .int (nI wr)), (1, .ref aR), (0, .ref h0)]) [0, 1, 2, 3, 4, 5, 6, 7, 8] rfl ?_
              exact lp3 _ 0 0 g2 (Nat.lt_succ_self _) (by omega) rfl (fun x hx => hg2 x hx)
        refine q_sub (L' := [(5, .int (nI 0)), (4, .int (nI 0)), (3, .int (nI 0)), (2, .int (nI 0)), (1, .ref aR), (0, .ref h0)]) [0, 1, 2, 3, 4, 5] rfl ?_
        exact lp2 _ 0 0 0 0 g (Nat.lt_succ_self _) (by omega) rfl rfl rfl (fun x hx => hg x (by omega))
      · refine q_aload_n C dL_holds_8 9 1 rfl rfl ?_
        refine q_iload_n C dL_holds_9 10 0 rfl rfl ?_
        refine q_iconst (v := nI 0) C dL_holds_10 11 rfl (by decide) ?_
        refine q_iast (k := 7) (j := 0) C dL_holds_11 12 rfl rfl rfl hcI i rfl (by omega) (by decide) [wX, wO, wA, wB, wL, wH, kw, [(aR, .inl (cI, 12, .inl (upd g i (nI 0))))]] rfl ?_
        refine q_iinc (v := nI (i + 1)) C dL_holds_12 15 0 rfl rfl (q_ninc1 (by omega)) [(2, .int (nI (i + 1))), (1, .ref aR), (0, .ref h0)] (by decide) rfl ?_
        refine q_goto C dL_holds_15 2 (by decide) ?_
        refine q_sub (L' := [(2, .int (nI (i + 1))), (1, .ref aR), (0, .ref h0)]) [0, 1, 2] rfl ?_
        exact ih_lp1 (i + 1) (upd g i (nI 0)) (by omega) (by omega) (fun x hx => (Decidable.em (x = i)).elim (fun e => by rw [e, pk_us]) (fun e => by rw [pk_un e]; exact hg x (by omega)))
  refine q_sub (L' := [(2, .int (nI 0)), (1, .ref aR), (0, .ref h0)]) [0, 2, 1] rfl ?_
  exact lp1 _ 0 g0 (Nat.lt_succ_self _) (by omega) (fun x hx => absurd hx (Nat.not_lt_zero x))
