set_option maxHeartbeats 400000 in
set_option maxRecDepth 100000 in
theorem c_X6_bitsOf_a (l : Launch) {D : va_G} {tys : List (ClassId × FieldType)} {Z : (Nat → Prop) → State → Heap → Prop} (hZ : q_St Z) {cI : ClassId} (hI : tys[0]? = some (cI, .int)) (x : UInt64) (hz : ¬ 0 < Op.cmpValue (FP.dcmp x FP.dconst0) .g) : q_Ct l D tys Z yX6_bitsOf wsX6_bitsOf ({ frames := 1, cells := 0, slots := 0, locals := 42 } : Room) 0 0 [.double x] [] (fun v0 R0 _ => v0 = some (.long 0) ∧ R0 = []) := by
  have hcI := hI
  refine q_ct (cc := cX6_bitsOf) (maxL := 8) (ret := (some .long)) (own := RX6) (by decide) rfl hZ (Nat.le_of_ble_eq_true rfl) rfl ?_
  intro p9 e9 R s9 m9 args below meth c9 A Q C B
  have hts := C.2.2.2.2.1
  refine q_eqL (L' := [(0, .double x)]) rfl ?_
  refine q_dload_n C dX6_bitsOf_0 1 0 rfl rfl ?_
  refine q_dconst0 C dX6_bitsOf_1 2 rfl ?_
  refine q_dcmp C dX6_bitsOf_2 3 rfl ?_
  refine q_if_gt C dX6_bitsOf_3 6 8 rfl (by decide) Iff.rfl (fun h3 => False.elim (hz h3)) (fun h3 => ?_)
  refine q_lconst (v := 0) C dX6_bitsOf_6 7 rfl (by decide) ?_
  exact q_lret C B dX6_bitsOf_7 rfl rfl (fun t0 ht0 => ⟨rfl, rfl⟩)

set_option maxHeartbeats 400000 in
set_option maxRecDepth 100000 in
theorem c_X6_bitsOf_b (l : Launch) {D : va_G} {tys : List (ClassId × FieldType)} {Z : (Nat → Prop) → State → Heap → Prop} (hZ : q_St Z) {cI : ClassId} (hI : tys[0]? = some (cI, .int)) (x : UInt64) (n : Nat) (hnc : k_nice x n) (hn8 : n ≤ 8) : q_Ct l D tys Z yX6_bitsOf wsX6_bitsOf ({ frames := 1, cells := 0, slots := 0, locals := 42 } : Room) 0 0 [.double x] [] (fun v0 R0 _ => v0 = some (.long ((x).toInt64)) ∧ R0 = []) := by
  have hcI := hI
  refine q_ct (cc := cX6_bitsOf) (maxL := 8) (ret := (some .long)) (own := RX6) (by decide) rfl hZ (Nat.le_of_ble_eq_true rfl) rfl ?_
  intro p9 e9 R s9 m9 args below meth c9 A Q C B
  have hts := C.2.2.2.2.1
  have cst352 := hts (.constantLong RX6 352 1023) (by decide +kernel)
  have cst356 := hts (.constantDouble RX6 356 4841369599423283200) (by decide +kernel)
  have cst354 := hts (.constantDouble RX6 354 4611686018427387904) (by decide +kernel)
  refine q_eqL (L' := [(0, .double x)]) rfl ?_
  obtain ⟨n1, n2, n3, n4, n5, n6⟩ := hnc
  refine q_dload_n C dX6_bitsOf_0 1 0 rfl rfl ?_
  refine q_dconst0 C dX6_bitsOf_1 2 rfl ?_
  refine q_dcmp C dX6_bitsOf_2 3 rfl ?_
  refine q_if_gt C dX6_bitsOf_3 6 8 rfl (by decide) Iff.rfl (fun h3 => ?_) (fun h3 => False.elim (h3 n6))
  refine q_dload_n C dX6_bitsOf_8 9 0 rfl rfl ?_
  refine q_dstore_n C dX6_bitsOf_9 10 rfl [(2, .double x), (0, .double x)] (by decide) rfl ?_
  refine q_ldc2 C cst352 dX6_bitsOf_10 13 rfl ?_
  refine q_lstore C dX6_bitsOf_13 15 rfl [(4, .long 1023), (2, .double x), (0, .double x)] (by decide) rfl ?_
  refine q_iconst (v := nI 0) C dX6_bitsOf_15 16 rfl (by decide) ?_
  refine q_istore C dX6_bitsOf_16 18 rfl [(6, .int (nI 0)), (4, .long 1023), (2, .double x), (0, .double x)] (by decide) rfl ?_
  have lp : ∀ (kk : Nat) (i : Nat) (u : Int64), 9 - i < kk → ∀ (hi : i ≤ n), ∀ (hu : u = 1023 - Int64.ofNat i), q_V p9 l e9 R s9 m9 args below meth c9 D A 8 Q 0 0 18 [(6, .int (nI i)), (4, .long u), (2, .double (k_scl x i)), (0, .double x)] [] [] := by
    intro kk
    induction kk with
    | zero => intro i u hkk; exact absurd hkk (Nat.not_lt_zero _)
    | succ kk ih_lp =>
      intro i u hkk hi hu
      refine q_iload C dX6_bitsOf_18 20 0 rfl rfl ?_
      refine q_sipush (v := nI 1023) C dX6_bitsOf_20 23 rfl (by decide) ?_
      refine q_icmp_ge C dX6_bitsOf_23 26 50 rfl (by decide) (nI_leI (by omega) (by omega)) (fun h23 => False.elim (by first | omega | simp_all)) (fun h23 => ?_)
      refine q_dload_n C dX6_bitsOf_26 27 2 rfl rfl ?_
      refine q_dconst1 C dX6_bitsOf_27 28 rfl ?_
      refine q_dcmp C dX6_bitsOf_28 29 rfl ?_
      refine q_if_ge C dX6_bitsOf_29 32 50 rfl (by decide) Iff.rfl (fun h29 => ?_) (fun h29 => ?_)
      · have hin : i = n := (Nat.lt_or_ge i n).elim (fun z => absurd (n1 i z).1 (Int32.not_lt.mpr h29)) (fun z => by omega)
        subst hin
        refine q_dload_n C dX6_bitsOf_50 51 2 rfl rfl ?_
        refine q_dconst1 C dX6_bitsOf_51 52 rfl ?_
        refine q_dsub C dX6_bitsOf_52 53 rfl n3 rfl ?_
        refine q_ldc2d C cst356 dX6_bitsOf_53 56 rfl ?_
        refine q_dmul C dX6_bitsOf_56 57 rfl n4 rfl ?_
        refine q_d2l C dX6_bitsOf_57 58 rfl ?_
        refine q_lstore C dX6_bitsOf_58 60 rfl [(6, .long (FP.d2l (FP.dmul (FP.dsub (k_scl x i) FP.dconst1) 4841369599423283200))), (4, .long u), (2, .double (k_scl x i)), (0, .double x)] (by decide) rfl ?_
        refine q_lload C dX6_bitsOf_60 62 1 rfl rfl ?_
        refine q_bipush (v := nI 52) C dX6_bitsOf_62 64 rfl (by decide) ?_
        refine q_lshl (v := u <<< (52 : Int64)) C dX6_bitsOf_64 65 rfl (by rw [show (nI 52).toInt64 &&& 63 = 52 by decide]) ?_
        refine q_lload C dX6_bitsOf_65 67 0 rfl rfl ?_
        refine q_ladd (v := (u <<< (52 : Int64)) + (FP.d2l (FP.dmul (FP.dsub (k_scl x i) FP.dconst1) 4841369599423283200))) C dX6_bitsOf_67 68 rfl rfl ?_
        exact q_lret C B dX6_bitsOf_68 rfl rfl (fun t0 ht0 => ⟨by rw [hu, n5], rfl⟩)
      · have hin : i < n := (Nat.lt_or_ge i n).elim id (fun z => absurd (show i = n by omega) (fun e => n2 (by rw [← e]; exact Int32.not_le.mp h29)))
        refine q_dload_n C dX6_bitsOf_32 33 2 rfl rfl ?_
        refine q_ldc2d C cst354 dX6_bitsOf_33 36 rfl ?_
        refine q_dmul C dX6_bitsOf_36 37 rfl ((n1 i hin).2) rfl ?_
        refine q_dstore_n C dX6_bitsOf_37 38 rfl [(2, .double (FP.dmul (k_scl x i) 4611686018427387904)), (6, .int (nI i)), (4, .long u), (0, .double x)] (by decide) rfl ?_
        refine q_lload C dX6_bitsOf_38 40 2 rfl rfl ?_
        refine q_lconst (v := 1) C dX6_bitsOf_40 41 rfl (by decide) ?_
        refine q_lsub (v := u - 1) C dX6_bitsOf_41 42 rfl rfl ?_
        refine q_lstore C dX6_bitsOf_42 44 rfl [(4, .long (u - 1)), (2, .double (FP.dmul (k_scl x i) 4611686018427387904)), (6, .int (nI i)), (0, .double x)] (by decide) rfl ?_
        refine q_iinc (v := nI (i + 1)) C dX6_bitsOf_44 47 2 rfl rfl (q_ninc1 (by omega)) [(6, .int (nI (i + 1))), (4, .long (u - 1)), (2, .double (FP.dmul (k_scl x i) 4611686018427387904)), (0, .double x)] (by decide) rfl ?_
        refine q_goto C dX6_bitsOf_47 18 (by decide) ?_
        refine q_sub (L' := [(6, .int (nI (i + 1))), (4, .long (u - 1)), (2, .double (FP.dmul (k_scl x i) 4611686018427387904)), (0, .double x)]) [0, 1, 2, 3] rfl ?_
        exact ih_lp (i + 1) (u - 1) (by omega) (by omega) (by rw [hu]; exact k_i64s i)
  refine q_sub (L' := [(6, .int (nI 0)), (4, .long 1023), (2, .double x), (0, .double x)]) [0, 1, 2, 3] rfl ?_
  exact lp _ 0 1023 (Nat.lt_succ_self _) (by omega) (by decide)
