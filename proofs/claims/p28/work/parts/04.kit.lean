section QW
variable {p : Program} {l : Launch} {e : Env} {R : Room} {s : State} {m : MethodId} {args : Array Value} {below : List Frame} {meth : Method} {c : Code} {Q : State → Prop}
variable {D : va_G} {tys : List (ClassId × FieldType)} {A : Nat → Prop} {Z : (Nat → Prop) → State → Heap → Prop} {cc : ByteArray} {nL : Nat} {Ts : List Cond} {own : String} {cells slots pc : Nat} {L : List (Nat × Value)} {st : List Value} {Rs : List va_W}
theorem q_iadd (C : q_C p s m args c cc nL Ts own D tys Z A) {x y v : Int32} (d : decode cc pc = .ok (.iadd, 1)) (n : Nat) (hn : pc + 1 = n) (hv : x + y = v) (kk : q_V p l e R s m args below meth c D A nL Q cells slots n L (.int v :: st) Rs) : q_V p l e R s m args below meth c D A nL Q cells slots pc L (.int y :: .int x :: st) Rs := by
  subst hn; subst hv
  exact fun H locs ls hP hD hS hl => lv_iadd C.1 C.2.1 d (kk H locs ls hP hD hS hl)
theorem q_isub (C : q_C p s m args c cc nL Ts own D tys Z A) {x y v : Int32} (d : decode cc pc = .ok (.isub, 1)) (n : Nat) (hn : pc + 1 = n) (hv : x - y = v) (kk : q_V p l e R s m args below meth c D A nL Q cells slots n L (.int v :: st) Rs) : q_V p l e R s m args below meth c D A nL Q cells slots pc L (.int y :: .int x :: st) Rs := by
  subst hn; subst hv
  exact fun H locs ls hP hD hS hl => lv_isub C.1 C.2.1 d (kk H locs ls hP hD hS hl)
theorem q_imul (C : q_C p s m args c cc nL Ts own D tys Z A) {x y v : Int32} (d : decode cc pc = .ok (.imul, 1)) (n : Nat) (hn : pc + 1 = n) (hv : x * y = v) (kk : q_V p l e R s m args below meth c D A nL Q cells slots n L (.int v :: st) Rs) : q_V p l e R s m args below meth c D A nL Q cells slots pc L (.int y :: .int x :: st) Rs := by
  subst hn; subst hv
  exact fun H locs ls hP hD hS hl => lv_imul C.1 C.2.1 d (kk H locs ls hP hD hS hl)
theorem q_iand (C : q_C p s m args c cc nL Ts own D tys Z A) {x y v : Int32} (d : decode cc pc = .ok (.iand, 1)) (n : Nat) (hn : pc + 1 = n) (hv : x &&& y = v) (kk : q_V p l e R s m args below meth c D A nL Q cells slots n L (.int v :: st) Rs) : q_V p l e R s m args below meth c D A nL Q cells slots pc L (.int y :: .int x :: st) Rs := by
  subst hn; subst hv
  exact fun H locs ls hP hD hS hl => lv_iand C.1 C.2.1 d (kk H locs ls hP hD hS hl)
theorem q_idiv (C : q_C p s m args c cc nL Ts own D tys Z A) {x y v : Int32} (d : decode cc pc = .ok (.idiv, 1)) (n : Nat) (hn : pc + 1 = n) (hne : ¬ y = 0) (hv : x / y = v) (kk : q_V p l e R s m args below meth c D A nL Q cells slots n L (.int v :: st) Rs) : q_V p l e R s m args below meth c D A nL Q cells slots pc L (.int y :: .int x :: st) Rs := by
  subst hn; subst hv
  exact fun H locs ls hP hD hS hl => lv_idiv C.1 C.2.1 d hne (kk H locs ls hP hD hS hl)
theorem q_irem (C : q_C p s m args c cc nL Ts own D tys Z A) {x y v : Int32} (d : decode cc pc = .ok (.irem, 1)) (n : Nat) (hn : pc + 1 = n) (hne : ¬ y = 0) (hv : x - x / y * y = v) (kk : q_V p l e R s m args below meth c D A nL Q cells slots n L (.int v :: st) Rs) : q_V p l e R s m args below meth c D A nL Q cells slots pc L (.int y :: .int x :: st) Rs := by
  subst hn; subst hv
  exact fun H locs ls hP hD hS hl => lv_irem C.1 C.2.1 d hne (kk H locs ls hP hD hS hl)
theorem q_ladd (C : q_C p s m args c cc nL Ts own D tys Z A) {x y v : Int64} (d : decode cc pc = .ok (.ladd, 1)) (n : Nat) (hn : pc + 1 = n) (hv : x + y = v) (kk : q_V p l e R s m args below meth c D A nL Q cells slots n L (.long v :: st) Rs) : q_V p l e R s m args below meth c D A nL Q cells slots pc L (.long y :: .long x :: st) Rs := by
  subst hn; subst hv
  exact fun H locs ls hP hD hS hl => lv_ladd C.1 C.2.1 d (kk H locs ls hP hD hS hl)
theorem q_lsub (C : q_C p s m args c cc nL Ts own D tys Z A) {x y v : Int64} (d : decode cc pc = .ok (.lsub, 1)) (n : Nat) (hn : pc + 1 = n) (hv : x - y = v) (kk : q_V p l e R s m args below meth c D A nL Q cells slots n L (.long v :: st) Rs) : q_V p l e R s m args below meth c D A nL Q cells slots pc L (.long y :: .long x :: st) Rs := by
  subst hn; subst hv
  exact fun H locs ls hP hD hS hl => lv_lsub C.1 C.2.1 d (kk H locs ls hP hD hS hl)
theorem q_lmul (C : q_C p s m args c cc nL Ts own D tys Z A) {x y v : Int64} (d : decode cc pc = .ok (.lmul, 1)) (n : Nat) (hn : pc + 1 = n) (hv : x * y = v) (kk : q_V p l e R s m args below meth c D A nL Q cells slots n L (.long v :: st) Rs) : q_V p l e R s m args below meth c D A nL Q cells slots pc L (.long y :: .long x :: st) Rs := by
  subst hn; subst hv
  exact fun H locs ls hP hD hS hl => lv_lmul C.1 C.2.1 d (kk H locs ls hP hD hS hl)
theorem q_dsub (C : q_C p s m args c cc nL Ts own D tys Z A) {x y v : UInt64} (d : decode cc pc = .ok (.dsub, 1)) (n : Nat) (hn : pc + 1 = n) (hne : vf_n64 (FP.dsub x y)) (hv : FP.dsub x y = v) (kk : q_V p l e R s m args below meth c D A nL Q cells slots n L (.double v :: st) Rs) : q_V p l e R s m args below meth c D A nL Q cells slots pc L (.double y :: .double x :: st) Rs := by
  subst hn; subst hv
  exact fun H locs ls hP hD hS hl => lv_dsub C.1 C.2.1 d hne (kk H locs ls hP hD hS hl)
theorem q_dmul (C : q_C p s m args c cc nL Ts own D tys Z A) {x y v : UInt64} (d : decode cc pc = .ok (.dmul, 1)) (n : Nat) (hn : pc + 1 = n) (hne : vf_n64 (FP.dmul x y)) (hv : FP.dmul x y = v) (kk : q_V p l e R s m args below meth c D A nL Q cells slots n L (.double v :: st) Rs) : q_V p l e R s m args below meth c D A nL Q cells slots pc L (.double y :: .double x :: st) Rs := by
  subst hn; subst hv
  exact fun H locs ls hP hD hS hl => lv_dmul C.1 C.2.1 d hne (kk H locs ls hP hD hS hl)
theorem q_ddiv (C : q_C p s m args c cc nL Ts own D tys Z A) {x y v : UInt64} (d : decode cc pc = .ok (.ddiv, 1)) (n : Nat) (hn : pc + 1 = n) (hne : vf_n64 (FP.ddiv x y)) (hv : FP.ddiv x y = v) (kk : q_V p l e R s m args below meth c D A nL Q cells slots n L (.double v :: st) Rs) : q_V p l e R s m args below meth c D A nL Q cells slots pc L (.double y :: .double x :: st) Rs := by
  subst hn; subst hv
  exact fun H locs ls hP hD hS hl => lv_ddiv C.1 C.2.1 d hne (kk H locs ls hP hD hS hl)
theorem q_i2l (C : q_C p s m args c cc nL Ts own D tys Z A) {x : Int32} {v : Int64} (d : decode cc pc = .ok (.i2l, 1)) (n : Nat) (hn : pc + 1 = n) (hv : x.toInt64 = v) (kk : q_V p l e R s m args below meth c D A nL Q cells slots n L (.long v :: st) Rs) : q_V p l e R s m args below meth c D A nL Q cells slots pc L (.int x :: st) Rs := by
  subst hn
  exact fun H locs ls hP hD hS hl => lv_i2l C.1 C.2.1 d hv (kk H locs ls hP hD hS hl)
theorem q_i2d (C : q_C p s m args c cc nL Ts own D tys Z A) {x : Int32} (d : decode cc pc = .ok (.i2d, 1)) (n : Nat) (hn : pc + 1 = n) (kk : q_V p l e R s m args below meth c D A nL Q cells slots n L (.double (FP.i2d x) :: st) Rs) : q_V p l e R s m args below meth c D A nL Q cells slots pc L (.int x :: st) Rs := by
  subst hn
  exact fun H locs ls hP hD hS hl => lv_i2d C.1 C.2.1 d (kk H locs ls hP hD hS hl)
theorem q_d2l (C : q_C p s m args c cc nL Ts own D tys Z A) {x : UInt64} (d : decode cc pc = .ok (.d2l, 1)) (n : Nat) (hn : pc + 1 = n) (kk : q_V p l e R s m args below meth c D A nL Q cells slots n L (.long (FP.d2l x) :: st) Rs) : q_V p l e R s m args below meth c D A nL Q cells slots pc L (.double x :: st) Rs := by
  subst hn
  exact fun H locs ls hP hD hS hl => lv_d2l C.1 C.2.1 d (kk H locs ls hP hD hS hl)
theorem q_dcmp (C : q_C p s m args c cc nL Ts own D tys Z A) {x y : UInt64} {op : CmpOp} (d : decode cc pc = .ok (.dcmp op, 1)) (n : Nat) (hn : pc + 1 = n) (kk : q_V p l e R s m args below meth c D A nL Q cells slots n L (.int (Op.cmpValue (FP.dcmp x y) op) :: st) Rs) : q_V p l e R s m args below meth c D A nL Q cells slots pc L (.double y :: .double x :: st) Rs := by
  subst hn
  exact fun H locs ls hP hD hS hl => lv_dcmp C.1 C.2.1 d (kk H locs ls hP hD hS hl)
theorem q_lcmp (C : q_C p s m args c cc nL Ts own D tys Z A) {x y : Int64} (d : decode cc pc = .ok (.lcmp, 1)) (n : Nat) (hn : pc + 1 = n) (kk : q_V p l e R s m args below meth c D A nL Q cells slots n L (.int (lg_cmp x y) :: st) Rs) : q_V p l e R s m args below meth c D A nL Q cells slots pc L (.long y :: .long x :: st) Rs := by
  subst hn
  exact fun H locs ls hP hD hS hl => W.lcmp C.1 C.2.1 d (kk H locs ls hP hD hS hl)
theorem q_lshl (C : q_C p s m args c cc nL Ts own D tys Z A) {x v : Int64} {y : Int32} (d : decode cc pc = .ok (.lshl, 1)) (n : Nat) (hn : pc + 1 = n) (hv : x <<< (y.toInt64 &&& 63) = v) (kk : q_V p l e R s m args below meth c D A nL Q cells slots n L (.long v :: st) Rs) : q_V p l e R s m args below meth c D A nL Q cells slots pc L (.int y :: .long x :: st) Rs := by
  subst hn
  exact fun H locs ls hP hD hS hl => lv_lshl C.1 C.2.1 d hv (kk H locs ls hP hD hS hl)
theorem q_lconst (C : q_C p s m args c cc nL Ts own D tys Z A) {k : Fin 2} {v : Int64} (d : decode cc pc = .ok (.lconst k, 1)) (n : Nat) (hn : pc + 1 = n) (hv : Int64.ofNat (k : Nat) = v) (kk : q_V p l e R s m args below meth c D A nL Q cells slots n L (.long v :: st) Rs) : q_V p l e R s m args below meth c D A nL Q cells slots pc L st Rs := by
  subst hn
  exact fun H locs ls hP hD hS hl => lv_lconst C.1 C.2.1 d hv (kk H locs ls hP hD hS hl)
theorem q_dconst0 (C : q_C p s m args c cc nL Ts own D tys Z A) (d : decode cc pc = .ok (.dconst 0, 1)) (n : Nat) (hn : pc + 1 = n) (kk : q_V p l e R s m args below meth c D A nL Q cells slots n L (.double FP.dconst0 :: st) Rs) : q_V p l e R s m args below meth c D A nL Q cells slots pc L st Rs := by
  subst hn
  exact fun H locs ls hP hD hS hl => lv_dconst0 C.1 C.2.1 d (kk H locs ls hP hD hS hl)
theorem q_dconst1 (C : q_C p s m args c cc nL Ts own D tys Z A) (d : decode cc pc = .ok (.dconst 1, 1)) (n : Nat) (hn : pc + 1 = n) (kk : q_V p l e R s m args below meth c D A nL Q cells slots n L (.double FP.dconst1 :: st) Rs) : q_V p l e R s m args below meth c D A nL Q cells slots pc L st Rs := by
  subst hn
  exact fun H locs ls hP hD hS hl => lv_dconst1 C.1 C.2.1 d (kk H locs ls hP hD hS hl)
theorem q_null (C : q_C p s m args c cc nL Ts own D tys Z A) (d : decode cc pc = .ok (.aconst_null, 1)) (n : Nat) (hn : pc + 1 = n) (kk : q_V p l e R s m args below meth c D A nL Q cells slots n L (.null :: st) Rs) : q_V p l e R s m args below meth c D A nL Q cells slots pc L st Rs := by
  subst hn
  exact fun H locs ls hP hD hS hl => lv_null C.1 C.2.1 d (kk H locs ls hP hD hS hl)
theorem q_dup (C : q_C p s m args c cc nL Ts own D tys Z A) {v : Value} (d : decode cc pc = .ok (.dup, 1)) (n : Nat) (hn : pc + 1 = n) (hc : v.category = 1) (kk : q_V p l e R s m args below meth c D A nL Q cells slots n L (v :: v :: st) Rs) : q_V p l e R s m args below meth c D A nL Q cells slots pc L (v :: st) Rs := by
  subst hn
  exact fun H locs ls hP hD hS hl => lv_dup C.1 C.2.1 d hc (kk H locs ls hP hD hS hl)
theorem q_pop (C : q_C p s m args c cc nL Ts own D tys Z A) {v : Value} (d : decode cc pc = .ok (.pop, 1)) (n : Nat) (hn : pc + 1 = n) (hc : v.category = 1) (kk : q_V p l e R s m args below meth c D A nL Q cells slots n L st Rs) : q_V p l e R s m args below meth c D A nL Q cells slots pc L (v :: st) Rs := by
  subst hn
  exact fun H locs ls hP hD hS hl => lv_pop C.1 C.2.1 d hc (kk H locs ls hP hD hS hl)
theorem q_dup2 (C : q_C p s m args c cc nL Ts own D tys Z A) {v w : Value} (d : decode cc pc = .ok (.dup2, 1)) (n : Nat) (hn : pc + 1 = n) (hc : v.category = 1) (hc2 : w.category = 1) (kk : q_V p l e R s m args below meth c D A nL Q cells slots n L (v :: w :: v :: w :: st) Rs) : q_V p l e R s m args below meth c D A nL Q cells slots pc L (v :: w :: st) Rs := by
  subst hn
  exact fun H locs ls hP hD hS hl => lv_dup2_11 C.1 C.2.1 d hc hc2 (kk H locs ls hP hD hS hl)
theorem q_ldc2 (C : q_C p s m args c cc nL Ts own D tys Z A) {index : Nat} {v : Int64} (hconst : (Jvm.Cond.constantLong own index v).before args s = true) (d : decode cc pc = .ok (.ldc2_w index, 3)) (n : Nat) (hn : pc + 3 = n) (kk : q_V p l e R s m args below meth c D A nL Q cells slots n L (.long v :: st) Rs) : q_V p l e R s m args below meth c D A nL Q cells slots pc L st Rs := by
  subst hn
  exact fun H locs ls hP hD hS hl => lv_ldc2 C.1 C.2.1 C.2.2.2.1 hconst d (kk H locs ls hP hD hS hl)
theorem q_ldc2d (C : q_C p s m args c cc nL Ts own D tys Z A) {index : Nat} {v : UInt64} (hconst : (Jvm.Cond.constantDouble own index v).before args s = true) (d : decode cc pc = .ok (.ldc2_w index, 3)) (n : Nat) (hn : pc + 3 = n) (kk : q_V p l e R s m args below meth c D A nL Q cells slots n L (.double v :: st) Rs) : q_V p l e R s m args below meth c D A nL Q cells slots pc L st Rs := by
  subst hn
  exact fun H locs ls hP hD hS hl => lv_ldc2d C.1 C.2.1 C.2.2.2.1 hconst d (kk H locs ls hP hD hS hl)
theorem q_icmp_eq (C : q_C p s m args c cc nL Ts own D tys Z A) {x y : Int32} {off : Int} {P : Prop} (d : decode cc pc = .ok (.if_icmp .eq off, 3)) (n tgt : Nat) (hn : pc + 3 = n) (ht : (pc : Int) + off = (tgt : Int)) (hc : (x = y) ↔ P) (kt : P → q_V p l e R s m args below meth c D A nL Q cells slots tgt L st Rs) (kf : ¬ P → q_V p l e R s m args below meth c D A nL Q cells slots n L st Rs) : q_V p l e R s m args below meth c D A nL Q cells slots pc L (.int y :: .int x :: st) Rs := by
  subst hn
  exact fun H locs ls hP hD hS hl => lv_icmp_eq C.1 C.2.1 d ht (fun z => kt (hc.mp z) H locs ls hP hD hS hl) (fun z => kf (fun q => z (hc.mpr q)) H locs ls hP hD hS hl)
theorem q_if_eq (C : q_C p s m args c cc nL Ts own D tys Z A) {x : Int32} {off : Int} {P : Prop} (d : decode cc pc = .ok (.ifCond .eq off, 3)) (n tgt : Nat) (hn : pc + 3 = n) (ht : (pc : Int) + off = (tgt : Int)) (hc : (x = 0) ↔ P) (kt : P → q_V p l e R s m args below meth c D A nL Q cells slots tgt L st Rs) (kf : ¬ P → q_V p l e R s m args below meth c D A nL Q cells slots n L st Rs) : q_V p l e R s m args below meth c D A nL Q cells slots pc L (.int x :: st) Rs := by
  subst hn
  exact fun H locs ls hP hD hS hl => lv_if_eq C.1 C.2.1 d ht (fun z => kt (hc.mp z) H locs ls hP hD hS hl) (fun z => kf (fun q => z (hc.mpr q)) H locs ls hP hD hS hl)
theorem q_icmp_ne (C : q_C p s m args c cc nL Ts own D tys Z A) {x y : Int32} {off : Int} {P : Prop} (d : decode cc pc = .ok (.if_icmp .ne off, 3)) (n tgt : Nat) (hn : pc + 3 = n) (ht : (pc : Int) + off = (tgt : Int)) (hc : (x = y) ↔ P) (kt : ¬ P → q_V p l e R s m args below meth c D A nL Q cells slots tgt L st Rs) (kf : P → q_V p l e R s m args below meth c D A nL Q cells slots n L st Rs) : q_V p l e R s m args below meth c D A nL Q cells slots pc L (.int y :: .int x :: st) Rs := by
  subst hn
  exact fun H locs ls hP hD hS hl => lv_icmp_ne C.1 C.2.1 d ht (fun z => kt (fun q => z (hc.mpr q)) H locs ls hP hD hS hl) (fun z => kf (hc.mp z) H locs ls hP hD hS hl)
theorem q_if_ne (C : q_C p s m args c cc nL Ts own D tys Z A) {x : Int32} {off : Int} {P : Prop} (d : decode cc pc = .ok (.ifCond .ne off, 3)) (n tgt : Nat) (hn : pc + 3 = n) (ht : (pc : Int) + off = (tgt : Int)) (hc : (x = 0) ↔ P) (kt : ¬ P → q_V p l e R s m args below meth c D A nL Q cells slots tgt L st Rs) (kf : P → q_V p l e R s m args below meth c D A nL Q cells slots n L st Rs) : q_V p l e R s m args below meth c D A nL Q cells slots pc L (.int x :: st) Rs := by
  subst hn
  exact fun H locs ls hP hD hS hl => lv_if_ne C.1 C.2.1 d ht (fun z => kt (fun q => z (hc.mpr q)) H locs ls hP hD hS hl) (fun z => kf (hc.mp z) H locs ls hP hD hS hl)
theorem q_icmp_lt (C : q_C p s m args c cc nL Ts own D tys Z A) {x y : Int32} {off : Int} {P : Prop} (d : decode cc pc = .ok (.if_icmp .lt off, 3)) (n tgt : Nat) (hn : pc + 3 = n) (ht : (pc : Int) + off = (tgt : Int)) (hc : (x < y) ↔ P) (kt : P → q_V p l e R s m args below meth c D A nL Q cells slots tgt L st Rs) (kf : ¬ P → q_V p l e R s m args below meth c D A nL Q cells slots n L st Rs) : q_V p l e R s m args below meth c D A nL Q cells slots pc L (.int y :: .int x :: st) Rs := by
  subst hn
  exact fun H locs ls hP hD hS hl => lv_icmp_lt C.1 C.2.1 d ht (fun z => kt (hc.mp z) H locs ls hP hD hS hl) (fun z => kf (fun q => z (hc.mpr q)) H locs ls hP hD hS hl)
theorem q_if_lt (C : q_C p s m args c cc nL Ts own D tys Z A) {x : Int32} {off : Int} {P : Prop} (d : decode cc pc = .ok (.ifCond .lt off, 3)) (n tgt : Nat) (hn : pc + 3 = n) (ht : (pc : Int) + off = (tgt : Int)) (hc : (x < 0) ↔ P) (kt : P → q_V p l e R s m args below meth c D A nL Q cells slots tgt L st Rs) (kf : ¬ P → q_V p l e R s m args below meth c D A nL Q cells slots n L st Rs) : q_V p l e R s m args below meth c D A nL Q cells slots pc L (.int x :: st) Rs := by
  subst hn
  exact fun H locs ls hP hD hS hl => lv_if_lt C.1 C.2.1 d ht (fun z => kt (hc.mp z) H locs ls hP hD hS hl) (fun z => kf (fun q => z (hc.mpr q)) H locs ls hP hD hS hl)
theorem q_icmp_ge (C : q_C p s m args c cc nL Ts own D tys Z A) {x y : Int32} {off : Int} {P : Prop} (d : decode cc pc = .ok (.if_icmp .ge off, 3)) (n tgt : Nat) (hn : pc + 3 = n) (ht : (pc : Int) + off = (tgt : Int)) (hc : (y ≤ x) ↔ P) (kt : P → q_V p l e R s m args below meth c D A nL Q cells slots tgt L st Rs) (kf : ¬ P → q_V p l e R s m args below meth c D A nL Q cells slots n L st Rs) : q_V p l e R s m args below meth c D A nL Q cells slots pc L (.int y :: .int x :: st) Rs := by
  subst hn
  exact fun H locs ls hP hD hS hl => lv_icmp_ge C.1 C.2.1 d ht (fun z => kt (hc.mp z) H locs ls hP hD hS hl) (fun z => kf (fun q => z (hc.mpr q)) H locs ls hP hD hS hl)
theorem q_if_ge (C : q_C p s m args c cc nL Ts own D tys Z A) {x : Int32} {off : Int} {P : Prop} (d : decode cc pc = .ok (.ifCond .ge off, 3)) (n tgt : Nat) (hn : pc + 3 = n) (ht : (pc : Int) + off = (tgt : Int)) (hc : (0 ≤ x) ↔ P) (kt : P → q_V p l e R s m args below meth c D A nL Q cells slots tgt L st Rs) (kf : ¬ P → q_V p l e R s m args below meth c D A nL Q cells slots n L st Rs) : q_V p l e R s m args below meth c D A nL Q cells slots pc L (.int x :: st) Rs := by
  subst hn
  exact fun H locs ls hP hD hS hl => lv_if_ge C.1 C.2.1 d ht (fun z => kt (hc.mp z) H locs ls hP hD hS hl) (fun z => kf (fun q => z (hc.mpr q)) H locs ls hP hD hS hl)
theorem q_icmp_gt (C : q_C p s m args c cc nL Ts own D tys Z A) {x y : Int32} {off : Int} {P : Prop} (d : decode cc pc = .ok (.if_icmp .gt off, 3)) (n tgt : Nat) (hn : pc + 3 = n) (ht : (pc : Int) + off = (tgt : Int)) (hc : (y < x) ↔ P) (kt : P → q_V p l e R s m args below meth c D A nL Q cells slots tgt L st Rs) (kf : ¬ P → q_V p l e R s m args below meth c D A nL Q cells slots n L st Rs) : q_V p l e R s m args below meth c D A nL Q cells slots pc L (.int y :: .int x :: st) Rs := by
  subst hn
  exact fun H locs ls hP hD hS hl => lv_icmp_gt C.1 C.2.1 d ht (fun z => kt (hc.mp z) H locs ls hP hD hS hl) (fun z => kf (fun q => z (hc.mpr q)) H locs ls hP hD hS hl)
theorem q_if_gt (C : q_C p s m args c cc nL Ts own D tys Z A) {x : Int32} {off : Int} {P : Prop} (d : decode cc pc = .ok (.ifCond .gt off, 3)) (n tgt : Nat) (hn : pc + 3 = n) (ht : (pc : Int) + off = (tgt : Int)) (hc : (0 < x) ↔ P) (kt : P → q_V p l e R s m args below meth c D A nL Q cells slots tgt L st Rs) (kf : ¬ P → q_V p l e R s m args below meth c D A nL Q cells slots n L st Rs) : q_V p l e R s m args below meth c D A nL Q cells slots pc L (.int x :: st) Rs := by
  subst hn
  exact fun H locs ls hP hD hS hl => lv_if_gt C.1 C.2.1 d ht (fun z => kt (hc.mp z) H locs ls hP hD hS hl) (fun z => kf (fun q => z (hc.mpr q)) H locs ls hP hD hS hl)
theorem q_icmp_le (C : q_C p s m args c cc nL Ts own D tys Z A) {x y : Int32} {off : Int} {P : Prop} (d : decode cc pc = .ok (.if_icmp .le off, 3)) (n tgt : Nat) (hn : pc + 3 = n) (ht : (pc : Int) + off = (tgt : Int)) (hc : (x ≤ y) ↔ P) (kt : P → q_V p l e R s m args below meth c D A nL Q cells slots tgt L st Rs) (kf : ¬ P → q_V p l e R s m args below meth c D A nL Q cells slots n L st Rs) : q_V p l e R s m args below meth c D A nL Q cells slots pc L (.int y :: .int x :: st) Rs := by
  subst hn
  exact fun H locs ls hP hD hS hl => lv_icmp_le C.1 C.2.1 d ht (fun z => kt (hc.mp z) H locs ls hP hD hS hl) (fun z => kf (fun q => z (hc.mpr q)) H locs ls hP hD hS hl)
theorem q_if_le (C : q_C p s m args c cc nL Ts own D tys Z A) {x : Int32} {off : Int} {P : Prop} (d : decode cc pc = .ok (.ifCond .le off, 3)) (n tgt : Nat) (hn : pc + 3 = n) (ht : (pc : Int) + off = (tgt : Int)) (hc : (x ≤ 0) ↔ P) (kt : P → q_V p l e R s m args below meth c D A nL Q cells slots tgt L st Rs) (kf : ¬ P → q_V p l e R s m args below meth c D A nL Q cells slots n L st Rs) : q_V p l e R s m args below meth c D A nL Q cells slots pc L (.int x :: st) Rs := by
  subst hn
  exact fun H locs ls hP hD hS hl => lv_if_le C.1 C.2.1 d ht (fun z => kt (hc.mp z) H locs ls hP hD hS hl) (fun z => kf (fun q => z (hc.mpr q)) H locs ls hP hD hS hl)
theorem q_goto (C : q_C p s m args c cc nL Ts own D tys Z A) {off : Int} (d : decode cc pc = .ok (.goto off, 3)) (tgt : Nat) (ht : (pc : Int) + off = (tgt : Int)) (kk : q_V p l e R s m args below meth c D A nL Q cells slots tgt L st Rs) : q_V p l e R s m args below meth c D A nL Q cells slots pc L st Rs :=
  fun H locs ls hP hD hS hl => lv_goto C.1 C.2.1 d ht (kk H locs ls hP hD hS hl)
theorem q_ifnonnull (C : q_C p s m args c cc nL Ts own D tys Z A) {x : Nat} {off : Int} (d : decode cc pc = .ok (.ifnonnull off, 3)) (tgt : Nat) (ht : (pc : Int) + off = (tgt : Int)) (kk : q_V p l e R s m args below meth c D A nL Q cells slots tgt L st Rs) : q_V p l e R s m args below meth c D A nL Q cells slots pc L (.ref x :: st) Rs :=
  fun H locs ls hP hD hS hl => lv_ifnonnull C.1 C.2.1 d ht (kk H locs ls hP hD hS hl)
theorem q_ifnonnullN (C : q_C p s m args c cc nL Ts own D tys Z A) {off : Int} (d : decode cc pc = .ok (.ifnonnull off, 3)) (n : Nat) (hn : pc + 3 = n) (kk : q_V p l e R s m args below meth c D A nL Q cells slots n L st Rs) : q_V p l e R s m args below meth c D A nL Q cells slots pc L (.null :: st) Rs := by
  subst hn
  exact fun H locs ls hP hD hS hl => lv_ifnonnullN C.1 C.2.1 d (kk H locs ls hP hD hS hl)
theorem q_acmp_ne (C : q_C p s m args c cc nL Ts own D tys Z A) {x y : Nat} {off : Int} {P : Prop} (d : decode cc pc = .ok (.if_acmp .ne off, 3)) (n tgt : Nat) (hn : pc + 3 = n) (ht : (pc : Int) + off = (tgt : Int)) (hc : x = y ↔ P) (kt : ¬ P → q_V p l e R s m args below meth c D A nL Q cells slots tgt L st Rs) (kf : P → q_V p l e R s m args below meth c D A nL Q cells slots n L st Rs) : q_V p l e R s m args below meth c D A nL Q cells slots pc L (.ref y :: .ref x :: st) Rs := by
  subst hn
  exact fun H locs ls hP hD hS hl => lv_acmp_ne (rx := some x) (ry := some y) C.1 C.2.1 d ht (fun z => kt (fun q => z (congrArg some (hc.mpr q))) H locs ls hP hD hS hl) (fun z => kf (hc.mp (Option.some.inj z)) H locs ls hP hD hS hl)
theorem q_tableOut (C : q_C p s m args c cc nL Ts own D tys Z A) {dflt lo hi : Int} {offs : Array Int} {len : Nat} {x : Int32} (d : decode cc pc = .ok (.tableswitch dflt lo hi offs, len)) (tgt : Nat) (h : x.toInt < lo ∨ hi < x.toInt) (ht : (pc : Int) + dflt = (tgt : Int)) (kk : q_V p l e R s m args below meth c D A nL Q cells slots tgt L st Rs) : q_V p l e R s m args below meth c D A nL Q cells slots pc L (.int x :: st) Rs :=
  fun H locs ls hP hD hS hl => lv_tableOut C.1 C.2.1 d h ht (kk H locs ls hP hD hS hl)
theorem q_tableIn (C : q_C p s m args c cc nL Ts own D tys Z A) {dflt lo hi : Int} {offs : Array Int} {len : Nat} {x : Int32} {off : Int} (d : decode cc pc = .ok (.tableswitch dflt lo hi offs, len)) (tgt : Nat) (h1 : ¬ x.toInt < lo) (h2 : ¬ hi < x.toInt) (ho : offs[(x.toInt - lo).toNat]? = some off) (ht : (pc : Int) + off = (tgt : Int)) (kk : q_V p l e R s m args below meth c D A nL Q cells slots tgt L st Rs) : q_V p l e R s m args below meth c D A nL Q cells slots pc L (.int x :: st) Rs :=
  fun H locs ls hP hD hS hl => lv_tableIn C.1 C.2.1 d h1 h2 ho ht (kk H locs ls hP hD hS hl)
theorem q_lookup (C : q_C p s m args c cc nL Ts own D tys Z A) {dflt : Int} {ps : Array (Int × Int)} {len : Nat} {x : Int32} {off : Int} (d : decode cc pc = .ok (.lookupswitch dflt ps, len)) (tgt : Nat) (hp : (ps.toList.zip (ps.toList.drop 1)).all (fun (a, next) => a.1 < next.1) = true) (ho : Op.lookupswitch.offset ps.toList dflt x.toInt = off) (ht : (pc : Int) + off = (tgt : Int)) (kk : q_V p l e R s m args below meth c D A nL Q cells slots tgt L st Rs) : q_V p l e R s m args below meth c D A nL Q cells slots pc L (.int x :: st) Rs :=
  fun H locs ls hP hD hS hl => lv_lookup C.1 C.2.1 d hp ho ht (kk H locs ls hP hD hS hl)
theorem q_get (C : q_C p s m args c cc nL Ts own D tys Z A) {ref Cn : String} {T : u_T} {N ci index f k j : Nat} {w : va_W} {a : Nat} {fs : List Value} {v : Value} (hin : ∀ w ∈ u_ws Cn T N, w ∈ Ts) (hlink : (Cond.fieldLink own index ref (T f).2.1 (T f).2.2.1).before args s = true) (hsame : ∀ x, s.fieldFound? (T f).1 (T f).2.1 (T f).2.2.1 = some x → s.fieldFound? ref (T f).2.1 (T f).2.2.1 = some x) (hf : f < N) (hc : vwCl[ci]? = some (Cn, T, N)) (d : decode cc pc = .ok (.getfield index, 3)) (n : Nat) (hn : pc + 3 = n) (hk : Rs[k]? = some w) (hj : w[j]? = some (a, .inr (ci, fs))) (hv : fs[f]? = some v) (kk : q_V p l e R s m args below meth c D A nL Q cells slots n L (v :: st) Rs) : q_V p l e R s m args below meth c D A nL Q cells slots pc L (.ref a :: st) Rs := by
  subst hn
  obtain ⟨q0, h1, -⟩ := q_flat hk hj
  exact fun H locs ls hP hD hS hl => va_get C.1 C.2.1 C.2.2.2.2.1 hin C.2.2.2.1 C.2.2.2.2.2.1 hP q0 h1 hc f hf hlink hsame hv d (kk H locs ls hP hD hS hl)
theorem q_put (C : q_C p s m args c cc nL Ts own D tys Z A) {ref Cn : String} {T : u_T} {N ci index f k j : Nat} {w : va_W} {a : Nat} {fs : List Value} {v : Value} {ty : FieldType} (hin : ∀ w ∈ u_ws Cn T N, w ∈ Ts) (ty0 : Nat → FieldType) (hty : ∀ k, k < N → parseFieldDescriptor (T k).2.2.1 = some (ty0 k)) (hnm : ∀ a, a < N → ∀ b, b < N → a ≠ b → (T a).2.1 ≠ (T b).2.1) (hlink : (Cond.fieldLink own index ref (T f).2.1 (T f).2.2.1).before args s = true) (hsame : ∀ x, s.fieldFound? (T f).1 (T f).2.1 (T f).2.2.1 = some x → s.fieldFound? ref (T f).2.1 (T f).2.2.1 = some x) (hf : f < N) (hc : vwCl[ci]? = some (Cn, T, N)) (hfin : (T f).2.2.2 = false) (hd : parseFieldDescriptor (T f).2.2.1 = some ty) (hnr : narrow ty v = v) (hfit : fits ty v = true) (d : decode cc pc = .ok (.putfield index, 3)) (n : Nat) (hn : pc + 3 = n) (hk : Rs[k]? = some w) (hj : w[j]? = some (a, .inr (ci, fs))) (hlf : f < fs.length) (Rs' : List va_W) (hR : Rs.set k (w.set j (a, .inr (ci, fs.set f v))) = Rs') (kk : q_V p l e R s m args below meth c D A nL Q cells slots n L st Rs') : q_V p l e R s m args below meth c D A nL Q cells slots pc L (v :: .ref a :: st) Rs := by
  subst hn; subst hR
  obtain ⟨q0, h1, h2⟩ := q_flat hk hj
  exact fun H locs ls hP hD hS hl => va_put C.1 C.2.1 C.2.2.2.2.1 hin ty0 hty hnm C.2.2.2.1 C.2.2.2.2.2.1 hP hD hS q0 h1 hc f hf hlink hsame hfin hd hnr hfit hlf d (fun H1 locs1 hP1 hD1 hS1 => kk H1 locs1 ls (by rw [← h2]; exact hP1) (by rw [← h2]; exact hD1) hS1 hl)
theorem q_getN (C : q_C p s m args c cc nL Ts own D tys Z A) {ref Cn : String} {host : String} {T : u_T} {N ci index f k j : Nat} {w : va_W} {a : Nat} {fs : List Value} {v : Value} (hin : ∀ w ∈ u_ws Cn T N, w ∈ Ts) (hlink : (Cond.fieldLinkNest own index ref (T f).2.1 (T f).2.2.1 host).before args s = true) (hsame : ∀ x, s.fieldFound? (T f).1 (T f).2.1 (T f).2.2.1 = some x → s.fieldFound? ref (T f).2.1 (T f).2.2.1 = some x) (hf : f < N) (hc : vwCl[ci]? = some (Cn, T, N)) (d : decode cc pc = .ok (.getfield index, 3)) (n : Nat) (hn : pc + 3 = n) (hk : Rs[k]? = some w) (hj : w[j]? = some (a, .inr (ci, fs))) (hv : fs[f]? = some v) (kk : q_V p l e R s m args below meth c D A nL Q cells slots n L (v :: st) Rs) : q_V p l e R s m args below meth c D A nL Q cells slots pc L (.ref a :: st) Rs := by
  subst hn
  obtain ⟨q0, h1, -⟩ := q_flat hk hj
  exact fun H locs ls hP hD hS hl => va_getN C.1 C.2.1 C.2.2.2.2.1 hin C.2.2.2.1 C.2.2.2.2.2.1 hP q0 h1 hc f hf hlink hsame hv d (kk H locs ls hP hD hS hl)
theorem q_putN (C : q_C p s m args c cc nL Ts own D tys Z A) {ref Cn : String} {host : String} {T : u_T} {N ci index f k j : Nat} {w : va_W} {a : Nat} {fs : List Value} {v : Value} {ty : FieldType} (hin : ∀ w ∈ u_ws Cn T N, w ∈ Ts) (ty0 : Nat → FieldType) (hty : ∀ k, k < N → parseFieldDescriptor (T k).2.2.1 = some (ty0 k)) (hnm : ∀ a, a < N → ∀ b, b < N → a ≠ b → (T a).2.1 ≠ (T b).2.1) (hlink : (Cond.fieldLinkNest own index ref (T f).2.1 (T f).2.2.1 host).before args s = true) (hsame : ∀ x, s.fieldFound? (T f).1 (T f).2.1 (T f).2.2.1 = some x → s.fieldFound? ref (T f).2.1 (T f).2.2.1 = some x) (hf : f < N) (hc : vwCl[ci]? = some (Cn, T, N)) (hfin : (T f).2.2.2 = false) (hd : parseFieldDescriptor (T f).2.2.1 = some ty) (hnr : narrow ty v = v) (hfit : fits ty v = true) (d : decode cc pc = .ok (.putfield index, 3)) (n : Nat) (hn : pc + 3 = n) (hk : Rs[k]? = some w) (hj : w[j]? = some (a, .inr (ci, fs))) (hlf : f < fs.length) (Rs' : List va_W) (hR : Rs.set k (w.set j (a, .inr (ci, fs.set f v))) = Rs') (kk : q_V p l e R s m args below meth c D A nL Q cells slots n L st Rs') : q_V p l e R s m args below meth c D A nL Q cells slots pc L (v :: .ref a :: st) Rs := by
  subst hn; subst hR
  obtain ⟨q0, h1, h2⟩ := q_flat hk hj
  exact fun H locs ls hP hD hS hl => va_putN C.1 C.2.1 C.2.2.2.2.1 hin ty0 hty hnm C.2.2.2.1 C.2.2.2.2.2.1 hP hD hS q0 h1 hc f hf hlink hsame hfin hd hnr hfit hlf d (fun H1 locs1 hP1 hD1 hS1 => kk H1 locs1 ls (by rw [← h2]; exact hP1) (by rw [← h2]; exact hD1) hS1 hl)
theorem q_putF (C : q_C p s m args c cc nL Ts own D tys Z A) {ref Cn : String} {T : u_T} {N ci index f k j : Nat} {w : va_W} {a : Nat} {fs : List Value} {v : Value} {ty : FieldType} (hin : ∀ w ∈ u_ws Cn T N, w ∈ Ts) (ty0 : Nat → FieldType) (hty : ∀ k, k < N → parseFieldDescriptor (T k).2.2.1 = some (ty0 k)) (hnm : ∀ a, a < N → ∀ b, b < N → a ≠ b → (T a).2.1 ≠ (T b).2.1) (hlink : (Cond.fieldLink own index ref (T f).2.1 (T f).2.2.1).before args s = true) (hsame : ∀ x, s.fieldFound? (T f).1 (T f).2.1 (T f).2.2.1 = some x → s.fieldFound? ref (T f).2.1 (T f).2.2.1 = some x) (hf : f < N) (hc : vwCl[ci]? = some (Cn, T, N)) (hfin : (T f).2.2.2 = true) (hin2 : meth.name = "<init>") (hdecl : (T f).1 = own) (hd : parseFieldDescriptor (T f).2.2.1 = some ty) (hnr : narrow ty v = v) (hfit : fits ty v = true) (d : decode cc pc = .ok (.putfield index, 3)) (n : Nat) (hn : pc + 3 = n) (hk : Rs[k]? = some w) (hj : w[j]? = some (a, .inr (ci, fs))) (hlf : f < fs.length) (Rs' : List va_W) (hR : Rs.set k (w.set j (a, .inr (ci, fs.set f v))) = Rs') (kk : q_V p l e R s m args below meth c D A nL Q cells slots n L st Rs') : q_V p l e R s m args below meth c D A nL Q cells slots pc L (v :: .ref a :: st) Rs := by
  subst hn; subst hR
  obtain ⟨q0, h1, h2⟩ := q_flat hk hj
  exact fun H locs ls hP hD hS hl => va_putF C.1 C.2.1 C.2.2.2.2.1 hin ty0 hty hnm C.2.2.2.1 C.2.2.2.2.2.1 hP hD hS q0 h1 hc f hf hlink hsame hfin hin2 hdecl hd hnr hfit hlf d (fun H1 locs1 hP1 hD1 hS1 => kk H1 locs1 ls (by rw [← h2]; exact hP1) (by rw [← h2]; exact hD1) hS1 hl)
theorem q_iald (C : q_C p s m args c cc nL Ts own D tys Z A) {k j t0 : Nat} {w : va_W} {a : Nat} {cA : ClassId} {N : Nat} {f : Nat → Int32} {i v : Int32} (d : decode cc pc = .ok (.iaload, 1)) (n : Nat) (hn : pc + 1 = n) (hk : Rs[k]? = some w) (hj : w[j]? = some (a, .inl (cA, N, .inl f))) (ht : tys[t0]? = some (cA, .int)) (q : Nat) (hi : i = nI q) (hq : q < N) (hN : N < 2 ^ 31) (hv : f q = v) (kk : q_V p l e R s m args below meth c D A nL Q cells slots n L (.int v :: st) Rs) : q_V p l e R s m args below meth c D A nL Q cells slots pc L (.int i :: .ref a :: st) Rs := by
  subst hn; subst hi; subst hv
  obtain ⟨q0, h1, -⟩ := q_flat hk hj
  refine fun H locs ls hP hD hS hl => va_iald C.1 C.2.1 C.2.2.2.2.2.1 hP q0 t0 h1 ht (vp_in_nI hq hN) d ?_
  rw [nI_clamp (Nat.lt_trans hq hN)]
  exact kk H locs ls hP hD hS hl
theorem q_iast (C : q_C p s m args c cc nL Ts own D tys Z A) {k j t0 : Nat} {w : va_W} {a : Nat} {cA : ClassId} {N : Nat} {f : Nat → Int32} {i x : Int32} (d : decode cc pc = .ok (.iastore, 1)) (n : Nat) (hn : pc + 1 = n) (hk : Rs[k]? = some w) (hj : w[j]? = some (a, .inl (cA, N, .inl f))) (ht : tys[t0]? = some (cA, .int)) (q : Nat) (hi : i = nI q) (hq : q < N) (hN : N < 2 ^ 31) (Rs' : List va_W) (hR : Rs.set k (w.set j (a, .inl (cA, N, .inl (upd f q x)))) = Rs') (kk : q_V p l e R s m args below meth c D A nL Q cells slots n L st Rs') : q_V p l e R s m args below meth c D A nL Q cells slots pc L (.int x :: .int i :: .ref a :: st) Rs := by
  subst hn; subst hi; subst hR
  obtain ⟨q0, h1, h2⟩ := q_flat hk hj
  refine fun H locs ls hP hD hS hl => va_iast C.1 C.2.1 C.2.2.2.2.2.1 hP hD hS q0 t0 h1 ht (vp_in_nI hq hN) d ?_
  rw [nI_clamp (Nat.lt_trans hq hN)]
  exact fun H1 locs1 hP1 hD1 hS1 => kk H1 locs1 ls (by rw [← h2]; exact hP1) (by rw [← h2]; exact hD1) hS1 hl
theorem q_alen (C : q_C p s m args c cc nL Ts own D tys Z A) {k j t0 : Nat} {w : va_W} {a : Nat} {cA : ClassId} {x : vp_A} {ty : FieldType} {v : Int32} (d : decode cc pc = .ok (.arraylength, 1)) (n : Nat) (hn : pc + 1 = n) (hk : Rs[k]? = some w) (hj : w[j]? = some (a, .inl (cA, x))) (ht : tys[t0]? = some (cA, ty)) (hv : Int32.ofNat x.1 = v) (kk : q_V p l e R s m args below meth c D A nL Q cells slots n L (.int v :: st) Rs) : q_V p l e R s m args below meth c D A nL Q cells slots pc L (.ref a :: st) Rs := by
  subst hn
  obtain ⟨q0, h1, -⟩ := q_flat hk hj
  exact fun H locs ls hP hD hS hl => va_alen C.1 C.2.1 C.2.2.2.2.2.1 hP q0 t0 h1 ht hv d (kk H locs ls hP hD hS hl)
theorem q_topi {x : Int32} (kk : ∀ y : Int32, y = x → q_V p l e R s m args below meth c D A nL Q cells slots pc L (.int y :: st) Rs) : q_V p l e R s m args below meth c D A nL Q cells slots pc L (.int x :: st) Rs := kk x rfl
theorem q_eqs {st' : List Value} (h : st = st') (kk : q_V p l e R s m args below meth c D A nL Q cells slots pc L st' Rs) : q_V p l e R s m args below meth c D A nL Q cells slots pc L st Rs := h ▸ kk
theorem q_eqL {L' : List (Nat × Value)} (h : L = L') (kk : q_V p l e R s m args below meth c D A nL Q cells slots pc L' st Rs) : q_V p l e R s m args below meth c D A nL Q cells slots pc L st Rs := h ▸ kk
theorem q_eqR {Rs' : List va_W} (h : Rs = Rs') (kk : q_V p l e R s m args below meth c D A nL Q cells slots pc L st Rs') : q_V p l e R s m args below meth c D A nL Q cells slots pc L st Rs := h ▸ kk
theorem q_sub {L' : List (Nat × Value)} (ks : List Nat) (hl : lv_pick L ks = L') (kk : q_V p l e R s m args below meth c D A nL Q cells slots pc L' st Rs) : q_V p l e R s m args below meth c D A nL Q cells slots pc L st Rs := fun H locs ls hP hD hS h => kk H locs ls hP hD hS (lv_sub h ks hl)
theorem q_widen {k n : Nat} (h1 : cells ≤ k) (h2 : slots ≤ n) (kk : q_V p l e R s m args below meth c D A nL Q k n pc L st Rs) : q_V p l e R s m args below meth c D A nL Q cells slots pc L st Rs := fun H locs ls hP hD hS h => W.widen h1 h2 (kk H locs ls hP hD hS h)
end QW
