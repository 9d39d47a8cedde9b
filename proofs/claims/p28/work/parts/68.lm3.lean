set_option maxHeartbeats 1000000 in
theorem c_L_act_A (l : Launch) {D : va_G} {tys : List (ClassId × FieldType)} {Z : (Nat → Prop) → State → Heap → Prop} (hZ : q_St Z) {cI : ClassId} (hI : tys[0]? = some (cI, .int)) (hN : q_Ns Z) {cG : ClassId} (hG : tys[1]? = some (cG, .object "SortCases$State")) {tL tH : Nat} (hVs : q_Vs Z tL tH) (h0 : Nat) (aO : Nat) (aY : Nat) (aN : Nat) (hsn : Int32) (aT : Nat) (aK : Nat) (wX : va_W) (hX : k_isX cI h0 aO aY aN hsn aT aK wX) (aB : Nat) (aL : Nat) (aS : Nat) (sc : Nat → Int32) (wO : va_W) (hO : k_isO cI aO aB aL aS sc wO) (wA : va_W) (hA : k_isA cI aS sc wA) (bx : k_Bx) (at0 : Nat) (wB : va_W) (hB : k_isB cI aB bx at0 wB) (ln : List (Nat × Nat)) (wL : va_W) (hL : k_isL cI aL ln wL) (sv : List k_S) (wH : va_W) (hH : k_isH cG cI aY sv wH) (naB : Nat) (naL : Nat) (naS : Nat) (nsc : Nat → Int32) (nwO : va_W) (nhO : k_isO cI aN naB naL naS nsc nwO) (nwA : va_W) (nhA : k_isA cI naS nsc nwA) (nbx : k_Bx) (nat0 : Nat) (nwB : va_W) (nhB : k_isB cI naB nbx nat0 nwB) (nln : List (Nat × Nat)) (nwL : va_W) (nhL : k_isL cI naL nln nwL) (v : Int32) (w : Int32) (hIv : k_Iv (bx, at0, ln, sc)) (h2 : sc 2 = nI 0 ∨ sc 2 = nI 1) (hsn1 : hsn = nI 1) : q_Ct l D tys Z yL_act wsL_act ({ frames := 9, cells := 0, slots := 0, locals := 282 } : Room) 0 0 [.ref h0, .int v, .int w] [wX, wO, wA, wB, wL, wH, nwO, nwA, nwB, nwL] (fun v0 R0 _ => v0 = some (.int (k_aR (k_act (bx, at0, ln, sc) (nbx, nat0, nln, nsc) v w))) ∧ ∃ wO', k_isO cI aO aB aL aS ((k_aS (bx, at0, ln, sc) (k_act (bx, at0, ln, sc) (nbx, nat0, nln, nsc) v w)).2.2.2) wO' ∧ ∃ wA', k_isA cI aS ((k_aS (bx, at0, ln, sc) (k_act (bx, at0, ln, sc) (nbx, nat0, nln, nsc) v w)).2.2.2) wA' ∧ ∃ wB', k_isB cI aB ((k_aS (bx, at0, ln, sc) (k_act (bx, at0, ln, sc) (nbx, nat0, nln, nsc) v w)).1) ((k_aS (bx, at0, ln, sc) (k_act (bx, at0, ln, sc) (nbx, nat0, nln, nsc) v w)).2.1) wB' ∧ ∃ wL', k_isL cI aL ((k_aS (bx, at0, ln, sc) (k_act (bx, at0, ln, sc) (nbx, nat0, nln, nsc) v w)).2.2.1) wL' ∧ ∃ wH', k_isH cG cI aY ((k_aV sv (bx, at0, ln, sc) (k_act (bx, at0, ln, sc) (nbx, nat0, nln, nsc) v w))) wH' ∧ R0 = [wX, wO', wA', wB', wL', wH', nwO, nwA, nwB, nwL]) := by
  have hj16 := k_jj_lt v
  by_cases e6 : k_jj v < 6
  · by_cases ew : k_wn bx ln sc (k_let w) = 0
    · skip
      have e9 : k_act (bx, at0, ln, sc) (nbx, nat0, nln, nsc) v w = some (nI (k_x bx (k_let w)), k_set (bx, at0, ln, sc) (k_let w)) := by unfold k_act; exact (if_pos e6).trans (if_pos ew)
      refine q_post (fun v9 R9 t9 hp9 => ?_) (q_frame hZ [nwO, nwA, nwB, nwL] (c_L_act_s1 l hZ hI hN hG hVs h0 aO aY aN hsn aT aK wX hX aB aL aS sc wO hO wA hA bx at0 wB hB ln wL hL sv wH hH v w hIv h2 e6 ew))
      obtain ⟨R8, ⟨rfl, wO9, hO9, wA9, hA9, wB9, hB9, wL9, hL9, wH9, hH9, rfl⟩, rfl⟩ := hp9
      rw [e9]
      exact ⟨_, rfl, rfl, wO9, hO9, wA9, hA9, wB9, hB9, wL9, hL9, wH9, hH9, rfl⟩
    · skip
      have e9 : k_act (bx, at0, ln, sc) (nbx, nat0, nln, nsc) v w = none := by unfold k_act; exact (if_pos e6).trans (if_neg ew)
      refine q_post (fun v9 R9 t9 hp9 => ?_) (q_frame hZ [nwO, nwA, nwB, nwL] (c_L_act_s0 l hZ hI hN hG hVs h0 aO aY aN hsn aT aK wX hX aB aL aS sc wO hO wA hA bx at0 wB hB ln wL hL sv wH hH v w hIv h2 e6 ew))
      obtain ⟨R8, ⟨rfl, rfl⟩, rfl⟩ := hp9
      rw [e9]
      exact ⟨_, rfl, rfl, wO, hO, wA, hA, wB, hB, wL, hL, wH, hH, rfl⟩
  by_cases e8 : k_jj v < 8
  · skip
    have e9 : k_act (bx, at0, ln, sc) (nbx, nat0, nln, nsc) v w = some (nI (k_cnt (k_bm bx at0 (-1)) (k_idl w)), k_rest (bx, at0, ln, sc) (k_idl w)) := by unfold k_act; exact (if_neg e6).trans (if_pos e8)
    refine q_post (fun v9 R9 t9 hp9 => ?_) (q_frame hZ [nwO, nwA, nwB, nwL] (c_L_act_i l hZ hI hN hG hVs h0 aO aY aN hsn aT aK wX hX aB aL aS sc wO hO wA hA bx at0 wB hB ln wL hL sv wH hH v w hIv h2 (by omega)))
    obtain ⟨R8, ⟨rfl, wO9, hO9, wA9, hA9, wB9, hB9, wH9, hH9, rfl⟩, rfl⟩ := hp9
    rw [e9]
    exact ⟨_, rfl, rfl, wO9, hO9, wA9, hA9, wB9, hB9, wL, hL, wH9, hH9, rfl⟩
  by_cases e10 : k_jj v < 10
  · by_cases el : ln.length = 0
    · skip
      have e9 : k_act (bx, at0, ln, sc) (nbx, nat0, nln, nsc) v w = none := by unfold k_act; exact (if_neg e6).trans ((if_neg e8).trans ((if_pos e10).trans (if_pos el)))
      refine q_post (fun v9 R9 t9 hp9 => ?_) (q_frame hZ [nwO, nwA, nwB, nwL] (c_L_act_f0 l hZ hI hN hG hVs h0 aO aY aN hsn aT aK wX hX aB aL aS sc wO hO wA hA bx at0 wB hB ln wL hL sv wH hH v w hIv h2 (by omega) el))
      obtain ⟨R8, ⟨rfl, rfl⟩, rfl⟩ := hp9
      rw [e9]
      exact ⟨_, rfl, rfl, wO, hO, wA, hA, wB, hB, wL, hL, wH, hH, rfl⟩
    by_cases ew : k_wc bx ln sc (k_low w ln.length) = 0
    · skip
      have e9 : k_act (bx, at0, ln, sc) (nbx, nat0, nln, nsc) v w = some (nI (k_er (k_rep ln (k_low w ln.length) (k_la ln (k_low w ln.length)).2)), k_cor (bx, at0, ln, sc) (k_low w ln.length)) := by unfold k_act; exact (if_neg e6).trans ((if_neg e8).trans ((if_pos e10).trans ((if_neg el).trans (if_pos ew))))
      refine q_post (fun v9 R9 t9 hp9 => ?_) (q_frame hZ [nwO, nwA, nwB, nwL] (c_L_act_f2 l hZ hI hN hG hVs h0 aO aY aN hsn aT aK wX hX aB aL aS sc wO hO wA hA bx at0 wB hB ln wL hL sv wH hH v w hIv h2 (by omega) (by omega) ew))
      obtain ⟨R8, ⟨rfl, wO9, hO9, wA9, hA9, wB9, hB9, wL9, hL9, wH9, hH9, rfl⟩, rfl⟩ := hp9
      rw [e9]
      exact ⟨_, rfl, rfl, wO9, hO9, wA9, hA9, wB9, hB9, wL9, hL9, wH9, hH9, rfl⟩
    · skip
      have e9 : k_act (bx, at0, ln, sc) (nbx, nat0, nln, nsc) v w = none := by unfold k_act; exact (if_neg e6).trans ((if_neg e8).trans ((if_pos e10).trans ((if_neg el).trans (if_neg ew))))
      refine q_post (fun v9 R9 t9 hp9 => ?_) (q_frame hZ [nwO, nwA, nwB, nwL] (c_L_act_f1 l hZ hI hN hG hVs h0 aO aY aN hsn aT aK wX hX aB aL aS sc wO hO wA hA bx at0 wB hB ln wL hL sv wH hH v w hIv h2 (by omega) (by omega) ew))
      obtain ⟨R8, ⟨rfl, rfl⟩, rfl⟩ := hp9
      rw [e9]
      exact ⟨_, rfl, rfl, wO, hO, wA, hA, wB, hB, wL, hL, wH, hH, rfl⟩
  by_cases e11 : k_jj v = 10
  · by_cases el : 8 < ln.length
    · skip
      have e9 : k_act (bx, at0, ln, sc) (nbx, nat0, nln, nsc) v w = none := by unfold k_act; exact (if_neg e6).trans ((if_neg e8).trans ((if_neg e10).trans ((if_pos e11).trans (if_pos el))))
      refine q_post (fun v9 R9 t9 hp9 => ?_) (q_frame hZ [nwO, nwA, nwB, nwL] (c_L_act_t0 l hZ hI hN hG hVs h0 aO aY aN hsn aT aK wX hX aB aL aS sc wO hO wA hA bx at0 wB hB ln wL hL sv wH hH v w hIv h2 (by omega) el))
      obtain ⟨R8, ⟨rfl, rfl⟩, rfl⟩ := hp9
      rw [e9]
      exact ⟨_, rfl, rfl, wO, hO, wA, hA, wB, hB, wL, hL, wH, hH, rfl⟩
    by_cases e1 : w.toBitVec.toNat % 2 = 0
    · by_cases ew : k_wy bx ln sc = 0
      · skip
        have e9 : k_act (bx, at0, ln, sc) (nbx, nat0, nln, nsc) v w = some (nI (k_wr (k_rb bx ln sc ln.length)), k_ret (bx, at0, ln, sc)) := by unfold k_act; exact (if_neg e6).trans ((if_neg e8).trans ((if_neg e10).trans ((if_pos e11).trans ((if_neg el).trans ((if_pos e1).trans (if_pos ew))))))
        refine q_post (fun v9 R9 t9 hp9 => ?_) (q_frame hZ [nwO, nwA, nwB, nwL] (c_L_act_t1 l hZ hI hN hG hVs h0 aO aY aN hsn aT aK wX hX aB aL aS sc wO hO wA hA bx at0 wB hB ln wL hL sv wH hH v w hIv h2 (by omega) (by omega) e1 ew))
        obtain ⟨R8, ⟨rfl, wO9, hO9, wA9, hA9, wB9, hB9, wL9, hL9, wH9, hH9, rfl⟩, rfl⟩ := hp9
        rw [e9]
        exact ⟨_, rfl, rfl, wO9, hO9, wA9, hA9, wB9, hB9, wL9, hL9, wH9, hH9, rfl⟩
      · skip
        have e9 : k_act (bx, at0, ln, sc) (nbx, nat0, nln, nsc) v w = none := by unfold k_act; exact (if_neg e6).trans ((if_neg e8).trans ((if_neg e10).trans ((if_pos e11).trans ((if_neg el).trans ((if_pos e1).trans (if_neg ew))))))
        refine q_post (fun v9 R9 t9 hp9 => ?_) (q_frame hZ [nwO, nwA, nwB, nwL] (c_L_act_t2 l hZ hI hN hG hVs h0 aO aY aN hsn aT aK wX hX aB aL aS sc wO hO wA hA bx at0 wB hB ln wL hL sv wH hH v w hIv h2 (by omega) (by omega) e1 ew))
        obtain ⟨R8, ⟨rfl, rfl⟩, rfl⟩ := hp9
        rw [e9]
        exact ⟨_, rfl, rfl, wO, hO, wA, hA, wB, hB, wL, hL, wH, hH, rfl⟩
    · skip
      have e9 : k_act (bx, at0, ln, sc) (nbx, nat0, nln, nsc) v w = some (nI nln.length, (nbx, nat0, nln, nsc)) := by unfold k_act; exact (if_neg e6).trans ((if_neg e8).trans ((if_neg e10).trans ((if_pos e11).trans ((if_neg el).trans (if_neg e1)))))
      refine q_post (fun v9 R9 t9 hp9 => ?_) (c_L_act_t3 l hZ hI hN hG hVs h0 aO aY aN hsn aT aK wX hX aB aL aS sc wO hO wA hA bx at0 wB hB ln wL hL sv wH hH naB naL naS nsc nwO nhO nwA nhA nbx nat0 nwB nhB nln nwL nhL v w hIv h2 (by omega) (by omega) e1 hsn1)
      obtain ⟨rfl, wO9, hO9, wA9, hA9, wB9, hB9, wL9, hL9, wH9, hH9, rfl⟩ := hp9
      rw [e9]
      exact ⟨_, rfl, rfl, wO9, hO9, wA9, hA9, wB9, hB9, wL9, hL9, wH9, hH9, rfl⟩
  by_cases e12 : k_jj v = 11
  · skip
    have e9 : k_act (bx, at0, ln, sc) (nbx, nat0, nln, nsc) v w = some (sc (k_low w 3), k_chs (bx, at0, ln, sc) (k_low w 3) (nI (k_chv w (k_low w 3)))) := by unfold k_act; exact (if_neg e6).trans ((if_neg e8).trans ((if_neg e10).trans ((if_neg e11).trans (if_pos e12))))
    refine q_post (fun v9 R9 t9 hp9 => ?_) (q_frame hZ [nwO, nwA, nwB, nwL] (c_L_act_c l hZ hI hN hG hVs h0 aO aY aN hsn aT aK wX hX aB aL aS sc wO hO wA hA bx at0 wB hB ln wL hL sv wH hH v w hIv h2 (by omega)))
    obtain ⟨R8, ⟨rfl, wO9, hO9, wA9, hA9, wH9, hH9, rfl⟩, rfl⟩ := hp9
    rw [e9]
    exact ⟨_, rfl, rfl, wO9, hO9, wA9, hA9, wB, hB, wL, hL, wH9, hH9, rfl⟩
  · skip
    have e9 : k_act (bx, at0, ln, sc) (nbx, nat0, nln, nsc) v w = some (nI (k_wr (k_ex bx (k_low w 12) (k_low (w >>> 4) 12))), k_xch (bx, at0, ln, sc) (k_low w 12) (k_low (w >>> 4) 12)) := by unfold k_act; exact (if_neg e6).trans ((if_neg e8).trans ((if_neg e10).trans ((if_neg e11).trans (if_neg e12))))
    refine q_post (fun v9 R9 t9 hp9 => ?_) (q_frame hZ [nwO, nwA, nwB, nwL] (c_L_act_w l hZ hI hN hG hVs h0 aO aY aN hsn aT aK wX hX aB aL aS sc wO hO wA hA bx at0 wB hB ln wL hL sv wH hH v w hIv h2 (by omega)))
    obtain ⟨R8, ⟨rfl, wO9, hO9, wA9, hA9, wB9, hB9, wH9, hH9, rfl⟩, rfl⟩ := hp9
    rw [e9]
    exact ⟨_, rfl, rfl, wO9, hO9, wA9, hA9, wB9, hB9, wL, hL, wH9, hH9, rfl⟩
