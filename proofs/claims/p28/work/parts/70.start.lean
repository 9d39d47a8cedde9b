/-! THE LAW'S START -/
theorem law_sub {β : Type} {l xs : List β} (ps : List Nat) (h : xs = ps.filterMap (fun i => l[i]?)) : ∀ x ∈ xs, x ∈ l := by
  intro x hx
  rw [h] at hx
  obtain ⟨i, -, hi⟩ := List.mem_filterMap.mp hx
  exact List.mem_of_getElem? hi
/-- what stands before and is never written: the links of nest mates, the array class, the settings' bounds, the script -/
def law_Z (tL tH b LL : Nat) (xs : Nat → Int32) (A : Nat → Prop) (U : State) (H : Heap) : Prop :=
  (∀ w ∈ q_nest, va_Nw w U) ∧ va_AO "SortCases$State" U ∧ ((va_Z "SortCases" "LOWEST_VALUES" "[I" (.ref tL) A U H ∧ va_T .int tL 3 (fun j => .int (k_lo j)) A U H) ∧ (va_Z "SortCases" "HIGHEST_VALUES" "[I" (.ref tH) A U H ∧ va_T .int tH 3 (fun j => .int (k_hi j)) A U H)) ∧ va_T .int b LL (fun j => .int (xs j)) A U H
def law_nw : Cond → Bool
  | .fieldLinkNest .. => true
  | .methodLinkNest .. => true
  | _ => false
theorem law_warm {w : Cond} (h : law_nw w = true) {s U : State} (hW : s.WarmedH U.vm) (hZ : va_Nw w s) : va_Nw w U := by
  unfold law_nw at h
  split at h
  · exact va_Nw.warmF hW hZ
  · exact va_Nw.warmM hW hZ
  · cases h
theorem law_nest_ok : ∀ w ∈ q_nest, law_nw w = true := by decide +kernel
theorem law_nest_on : ∀ w ∈ q_nest, w.onTables = true := by decide +kernel
theorem law_Zst (tL tH b LL : Nat) (xs : Nat → Int32) : q_St (law_Z tL tH b LL xs) := by
  intro A A' s U H H' h hW hk hn
  have ha := hW.alike
  obtain ⟨h1, h2, ⟨⟨b1, b2⟩, b3, b4⟩, c1⟩ := h
  exact ⟨fun w hw => law_warm (law_nest_ok w hw) hW (h1 w hw), va_AO.moved ha h2, ⟨⟨((va_Z.moved ha b1).kept hk).narrow hn, ((va_T.moved ha b2).kept hk).narrow hn⟩, ((va_Z.moved ha b3).kept hk).narrow hn, ((va_T.moved ha b4).kept hk).narrow hn⟩, ((va_T.moved ha c1).kept hk).narrow hn⟩
theorem law_Zns (tL tH b LL : Nat) (xs : Nat → Int32) : q_Ns (law_Z tL tH b LL xs) := fun _ _ _ h => h.1
theorem law_Zna (tL tH b LL : Nat) (xs : Nat → Int32) : q_Na (law_Z tL tH b LL xs) := fun _ _ _ h => h.2.1
theorem law_Zvs (tL tH b LL : Nat) (xs : Nat → Int32) : q_Vs (law_Z tL tH b LL xs) tL tH := fun _ _ _ h => h.2.2.1
theorem law_Zsc (tL tH b LL : Nat) (xs : Nat → Int32) : q_Sc (law_Z tL tH b LL xs) b LL xs := fun _ _ _ h => h.2.2.2
def law_need : List Cond := [(Cond.arrayOf (Term.static "SortCases" "LOWEST_VALUES" "[I") FieldType.int), (Cond.eq (Term.length (Term.static "SortCases" "LOWEST_VALUES" "[I")) (Term.int 3)), (Cond.eq (Term.elem (Term.static "SortCases" "LOWEST_VALUES" "[I") (Term.int 0)) (Term.int 20)), (Cond.eq (Term.elem (Term.static "SortCases" "LOWEST_VALUES" "[I") (Term.int 1)) (Term.int 0)), (Cond.eq (Term.elem (Term.static "SortCases" "LOWEST_VALUES" "[I") (Term.int 2)) (Term.int 0)), (Cond.arrayOf (Term.static "SortCases" "HIGHEST_VALUES" "[I") FieldType.int), (Cond.eq (Term.length (Term.static "SortCases" "HIGHEST_VALUES" "[I")) (Term.int 3)), (Cond.eq (Term.elem (Term.static "SortCases" "HIGHEST_VALUES" "[I") (Term.int 0)) (Term.int 120)), (Cond.eq (Term.elem (Term.static "SortCases" "HIGHEST_VALUES" "[I") (Term.int 1)) (Term.int 9)), (Cond.eq (Term.elem (Term.static "SortCases" "HIGHEST_VALUES" "[I") (Term.int 2)) (Term.int 1))]
set_option maxRecDepth 100000 in
theorem law_need_in : ∀ c ∈ law_need, c ∈ flatC (Cond.and given_1 narrow_1) := law_sub [7, 8, 9, 10, 11, 13, 14, 15, 16, 17] (by decide +kernel)
def law_tneed : List Cond := [Cond.initialized "SortCases", Cond.laysStatic "SortCases" "LOWEST_VALUES" "[I", Cond.laysStatic "SortCases" "HIGHEST_VALUES" "[I"]
set_option maxRecDepth 100000 in
theorem law_tneed_in : ∀ c ∈ law_tneed, c ∈ lw_tbl := law_sub [7, 565, 567] (by decide +kernel)
set_option maxRecDepth 100000 in
theorem law_ao_in : Cond.arrayOver (.object "SortCases$State") ∈ lw_tbl := List.mem_of_getElem? (i := 124) (by decide +kernel)
set_option maxRecDepth 100000 in
theorem law_nest_in : ∀ w ∈ q_nest, w ∈ lw_tbl := law_sub [46, 64, 65, 74, 76, 79, 81, 83, 85, 87, 89, 91, 93, 129, 29, 57, 125, 139, 305, 483] (by decide +kernel)
theorem law_3 {P : Nat → Prop} (h0 : P 0) (h1 : P 1) (h2 : P 2) : ∀ i, i < 3 → P i := by
  intro i hi
  obtain rfl | rfl | rfl : i = 0 ∨ i = 1 ∨ i = 2 := by omega
  all_goals assumption
set_option maxHeartbeats 1000000 in
theorem law_Zs {s : State} {b LL : Nat} {xs : Nat → Int32} (hts : ∀ w ∈ lw_tbl, w.before #[Value.ref b] s = true) (hgv : (Cond.and given_1 narrow_1).before #[Value.ref b] s = true) (hX : va_X b LL xs s s.heap) (hbl : b < s.heap.size) : ∃ tL tH : Nat, law_Z tL tH b LL xs (fun q => s.heap.size ≤ q) s s.heap := by
  have hA : ∀ a : Nat, a < s.heap.size → ¬ s.heap.size ≤ a := fun a h => Nat.not_le.mpr h
  have hfl := flat_of_before _ hgv
  have hs : ∀ (k : Nat) (c : Cond), law_need[k]? = some c → c.before #[Value.ref b] s = true := fun k c h => hfl c (law_need_in c (List.mem_of_getElem? h))
  have ht : ∀ (k : Nat) (c : Cond), law_tneed[k]? = some c → c.before #[Value.ref b] s = true := fun k c h => hts c (law_tneed_in c (List.mem_of_getElem? h))
  obtain ⟨tL, l1, l2⟩ := va_Tof (args := #[Value.ref b]) (s := s) (tm := .static "SortCases" "LOWEST_VALUES" "[I") (ty := .int) (N := 3) (f := fun j => .int (k_lo j)) (A := fun q => s.heap.size ≤ q) (by decide) (hs 0 _ rfl) (va_eqt (hs 1 _ rfl)) (fun j hj => va_eqt (law_3 (P := fun j => (Cond.eq (Term.elem (.static "SortCases" "LOWEST_VALUES" "[I") (.int (Int32.ofNat j))) (.int (k_lo j))).before #[Value.ref b] s = true) (hs 2 _ rfl) (hs 3 _ rfl) (hs 4 _ rfl) j hj)) hA
  obtain ⟨tH, g1, g2⟩ := va_Tof (args := #[Value.ref b]) (s := s) (tm := .static "SortCases" "HIGHEST_VALUES" "[I") (ty := .int) (N := 3) (f := fun j => .int (k_hi j)) (A := fun q => s.heap.size ≤ q) (by decide) (hs 5 _ rfl) (va_eqt (hs 6 _ rfl)) (fun j hj => va_eqt (law_3 (P := fun j => (Cond.eq (Term.elem (.static "SortCases" "HIGHEST_VALUES" "[I") (.int (Int32.ofNat j))) (.int (k_hi j))).before #[Value.ref b] s = true) (hs 7 _ rfl) (hs 8 _ rfl) (hs 9 _ rfl) j hj)) hA
  obtain ⟨scr, x1, x2, x3, x4, x5⟩ := hX
  exact ⟨tL, tH, fun w hw => va_Nw.of (law_nest_on w hw) (hts w (law_nest_in w hw)), va_AO.of (hts _ law_ao_in), ⟨⟨va_Zref (ht 1 _ rfl) (ht 0 _ rfl) l1 hA, l2⟩, va_Zref (ht 2 _ rfl) (ht 0 _ rfl) g1 hA, g2⟩, scr, x1, x2, x3, Nat.le_of_eq x4.symm, (by rw [x4]), x5, hA b hbl⟩
section QT2
variable {s : State} {args : Array Value}
/-- the array classes of the whole claim -/
theorem q_tys2 {dC : Nat → ClassId} {dI : Nat → Nat → Nat} {cl : List vw_C} (h1 : (Cond.arrayClass .int).before args s = true) (h2 : va_AO "SortCases$State" s) (hK : ∀ (k : Nat) (q : vw_C), cl[k]? = some q → u_Kn s q.1 q.2.1 q.2.2 (dC k) (dI k)) : ∃ cI cG : ClassId, va_K (dC, dI) cl [(cI, .int), (cG, .object "SortCases$State")] s := by
  obtain ⟨cI, kI, compI, a1, a2, a3⟩ := Cond.arrayClass_spec h1
  obtain ⟨comp, cG, kG, b1, -, b3, b4, b5⟩ := Cond.arrayOver_spec h2
  refine ⟨cI, cG, hK, fun k q hq => ?_⟩
  match k, hq with
  | 0, hq =>
    cases hq
    exact ⟨fun n z => ⟨fun k h => (by cases h), kI, a2, compI, a3⟩, a1⟩
  | 1, hq =>
    cases hq
    exact ⟨fun n z => ⟨fun k h => (by cases h), kG, b3, comp, b4⟩, kG, comp, b3, b4, b1, b5⟩
  | k + 2, hq => simp at hq
end QT2
/-! The law's table lies in the claim's -/
set_option maxRecDepth 100000 in
theorem lawIn_1 : ∀ w ∈ wsL_law0_r1, w ∈ lw_tbl := law_sub [19, 20, 7, 54, 21, 22, 23, 24, 25, 26, 27, 28, 8, 152, 117, 118, 11, 153, 154, 155, 137, 138, 12, 156] (by decide +kernel)
set_option maxRecDepth 100000 in
theorem lawIn_2 : ∀ w ∈ wsL_law0_r2, w ∈ lw_tbl := law_sub [150, 34, 9, 157, 30, 31, 32, 33, 73, 55, 56, 10, 75, 77, 78, 80, 82, 84, 86, 88, 90, 92, 35, 36] (by decide +kernel)
set_option maxRecDepth 100000 in
theorem lawIn_3 : ∀ w ∈ wsL_law0_r3, w ∈ lw_tbl := law_sub [37, 38, 43, 44, 45, 39, 40, 41, 42, 58, 59, 60, 61, 62, 63, 119, 120, 121, 122, 123, 126, 127, 128, 140] (by decide +kernel)
set_option maxRecDepth 100000 in
theorem lawIn_4 : ∀ w ∈ wsL_law0_r4, w ∈ lw_tbl := law_sub [141, 142, 143, 144, 151, 279, 280, 281, 282, 283, 268, 269, 270, 271, 272, 273, 274, 275, 276, 277, 278, 378, 379, 380] (by decide +kernel)
set_option maxRecDepth 100000 in
theorem lawIn_5 : ∀ w ∈ wsL_law0_r5, w ∈ lw_tbl := law_sub [381, 308, 309, 310, 311, 312, 313, 314, 315, 301, 302, 303, 304, 316, 317, 318, 319, 357, 358, 359, 360, 361, 362, 363] (by decide +kernel)
set_option maxRecDepth 100000 in
theorem lawIn_6 : ∀ w ∈ wsL_law0_r6, w ∈ lw_tbl := law_sub [364, 365, 366, 367, 368, 369, 340, 341, 342, 343, 370, 371, 372, 373, 374, 375, 376, 377, 171, 172, 173, 174, 175, 16] (by decide +kernel)
set_option maxRecDepth 100000 in
theorem lawIn_7 : ∀ w ∈ wsL_law0_r7, w ∈ lw_tbl := law_sub [382, 383, 6, 384, 284, 285, 286, 287, 289, 291, 1, 292, 293, 294, 295, 296, 297, 298, 299, 300, 306, 307, 320, 321] (by decide +kernel)
set_option maxRecDepth 100000 in
theorem lawIn_8 : ∀ w ∈ wsL_law0_r8, w ∈ lw_tbl := law_sub [322, 323, 324, 325, 326, 327, 328, 329, 330, 331, 332, 333, 334, 335, 336, 337, 338, 339, 344, 345, 346, 347, 348, 349] (by decide +kernel)
set_option maxRecDepth 100000 in
theorem lawIn_9 : ∀ w ∈ wsL_law0_r9, w ∈ lw_tbl := law_sub [350, 351, 352, 353, 354, 355, 356, 243, 244, 245, 246, 247, 17, 263, 264, 265, 266, 267, 389, 390, 391, 392, 393, 394] (by decide +kernel)
set_option maxRecDepth 100000 in
theorem lawIn_10 : ∀ w ∈ wsL_law0_r10, w ∈ lw_tbl := law_sub [395, 396, 397, 401, 18, 398, 399, 400, 418, 420, 2, 421, 422, 423, 424, 425, 426, 427, 428, 429, 430, 431, 432, 433] (by decide +kernel)
set_option maxRecDepth 100000 in
theorem lawIn_11 : ∀ w ∈ wsL_law0_r11, w ∈ lw_tbl := law_sub [435, 436, 437, 438, 439, 440, 441, 442, 445, 447, 3, 448, 449, 450, 451, 452, 453, 454, 455, 456, 457, 458, 459, 460] (by decide +kernel)
set_option maxRecDepth 100000 in
theorem lawIn_12 : ∀ w ∈ wsL_law0_r12, w ∈ lw_tbl := law_sub [461, 462, 464, 4, 465, 466, 467, 468, 469, 470, 471, 385, 386, 387, 388, 472, 473, 474, 475, 477, 478, 479, 480, 481] (by decide +kernel)
set_option maxRecDepth 100000 in
theorem lawIn_13 : ∀ w ∈ wsL_law0_r13, w ∈ lw_tbl := law_sub [482, 484, 485, 486, 487, 489, 490, 491, 492, 493, 494, 495, 496, 497, 498, 499, 500, 501, 502, 504, 5, 505, 506, 507] (by decide +kernel)
set_option maxRecDepth 100000 in
theorem lawIn_14 : ∀ w ∈ wsL_law0_r14, w ∈ lw_tbl := law_sub [508, 509, 510, 512, 513, 514, 515, 516, 517, 518, 519, 521, 522, 523, 524, 525, 526, 527, 528, 529, 530, 531, 532, 533] (by decide +kernel)
set_option maxRecDepth 100000 in
theorem lawIn_15 : ∀ w ∈ wsL_law0_r15, w ∈ lw_tbl := law_sub [534, 535, 536, 537, 538, 539, 540, 541, 542, 543, 544, 545, 547, 548, 549, 550, 551, 552, 553, 554, 555, 556, 557, 558] (by decide +kernel)
set_option maxRecDepth 100000 in
theorem lawIn_16 : ∀ w ∈ wsL_law0_r16, w ∈ lw_tbl := law_sub [560, 561, 562, 563, 564, 566, 570, 571, 572, 573, 574, 575, 576, 577, 578, 579, 580, 581, 582, 583, 584, 585, 586, 587] (by decide +kernel)
set_option maxRecDepth 100000 in
theorem lawIn_17 : ∀ w ∈ wsL_law0_r17, w ∈ lw_tbl := law_sub [588, 589, 590, 591, 592, 593, 594, 595] (by decide +kernel)
set_option maxRecDepth 100000 in
theorem lawIn_X6 : ∀ w ∈ wsX60, w ∈ lw_tbl := by decide +kernel
set_option maxRecDepth 100000 in
theorem lawIn_X4 : ∀ w ∈ wsX40, w ∈ lw_tbl := by decide +kernel
set_option maxRecDepth 100000 in
theorem lawIn_X1 : ∀ w ∈ wsX10, w ∈ lw_tbl := by decide +kernel
set_option maxRecDepth 100000 in
theorem lawIn_X5 : ∀ w ∈ wsX50, w ∈ lw_tbl := by decide +kernel
set_option maxRecDepth 100000 in
theorem lawIn_X0 : ∀ w ∈ wsX00, w ∈ lw_tbl := by decide +kernel
set_option maxRecDepth 100000 in
theorem lawIn_X2 : ∀ w ∈ wsX20, w ∈ lw_tbl := by decide +kernel
set_option maxRecDepth 100000 in
theorem lawIn_E0 : ∀ w ∈ (vx_atS RX6 75 "java/lang/IllegalArgumentException" ["java/lang/RuntimeException", "java/lang/Exception"]).filter goodWord, w ∈ lw_tbl := by decide +kernel
set_option maxRecDepth 100000 in
theorem lawIn_E1 : ∀ w ∈ (vx_atS RX6 63 "java/lang/IllegalStateException" ["java/lang/RuntimeException", "java/lang/Exception"]).filter goodWord, w ∈ lw_tbl := by decide +kernel
set_option maxRecDepth 100000 in
theorem lawIn_E2 : ∀ w ∈ (vx_atS RX6 52 "java/lang/IndexOutOfBoundsException" ["java/lang/RuntimeException", "java/lang/Exception"]).filter goodWord, w ∈ lw_tbl := by decide +kernel
theorem law_app {big a b : List Cond} (ha : ∀ w ∈ a, w ∈ big) (hb : ∀ w ∈ b, w ∈ big) : ∀ w ∈ a ++ b, w ∈ big := fun w h => (List.mem_append.mp h).elim (ha w) (hb w)
theorem lawIn_rows : ∀ w ∈ wsL_law0, w ∈ lw_tbl := law_app (law_app (law_app (law_app (law_app (law_app (law_app (law_app lawIn_1 (law_app lawIn_2 (law_app lawIn_3 (law_app lawIn_4 (law_app lawIn_5 (law_app lawIn_6 (law_app lawIn_7 (law_app lawIn_8 (law_app lawIn_9 (law_app lawIn_10 (law_app lawIn_11 (law_app lawIn_12 (law_app lawIn_13 (law_app lawIn_14 (law_app lawIn_15 (law_app lawIn_16 (lawIn_17))))))))))))))))) lawIn_X6) lawIn_X4) lawIn_X1) lawIn_X5) lawIn_X0) lawIn_X2) (fun _ h => absurd h List.not_mem_nil)
theorem lawIn : ∀ w ∈ wsL_law, w ∈ lw_tbl := law_app (law_app (law_app lawIn_rows lawIn_E0) lawIn_E1) lawIn_E2
def law_uneed : List Cond := [Cond.instantiable RX0 3, Cond.instantiable RX1 3, Cond.instantiable RX2 3, Cond.instantiable RX4 11, Cond.instantiable RX5 2, Cond.instantiable RX6 6, Cond.classLink RL 13 RX6, Cond.initialized RX6, Cond.methodLink RL 72 yX6_init, Cond.instanceMethod yX6_init, Cond.arrayClass .int]
set_option maxRecDepth 100000 in
theorem law_uneed_in : ∀ c ∈ law_uneed, c ∈ lw_tbl := law_sub [34, 118, 56, 28, 138, 20, 19, 7, 21, 22, 54] (by decide +kernel)
