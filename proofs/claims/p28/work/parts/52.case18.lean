/-! THE DIGEST -/
section QD
variable {p : Program} {l : Launch} {e : Env} {R : Room} {s : State} {m : MethodId} {args : Array Value} {below : List Frame} {meth : Method} {c : Code} {Q : State → Prop}
variable {D : va_G} {tys : List (ClassId × FieldType)} {A : Nat → Prop} {Z : (Nat → Prop) → State → Heap → Prop} {cc : ByteArray} {nL : Nat} {Ts : List Cond} {own : String} {cells slots pc : Nat} {L : List (Nat × Value)} {st : List Value} {Rs : List va_W}
theorem q_d2raw (C : q_C p s m args c cc nL Ts own D tys Z A) {index : Nat} (hlink : (Cond.methodLink own index ⟨"java/lang/Double", "doubleToRawLongBits", "(D)J"⟩).before args s = true) (hnat : (Cond.native ⟨"java/lang/Double", "doubleToRawLongBits", "(D)J"⟩).before args s = true) (hstat : (Cond.static ⟨"java/lang/Double", "doubleToRawLongBits", "(D)J"⟩).before args s = true) (hinit : (Cond.initialized "java/lang/Double").before args s = true) {rmC : Room} (hRC : R = rmC) (hf : 1 ≤ rmC.frames) (hlo : (st.map fun v => v.category).sum + 15 ≤ rmC.locals) {x : UInt64} (d : decode cc pc = .ok (.invokestatic index, 3)) (np : Nat) (hnp : pc + 3 = np)
    (kk : q_V p l e R s m args below meth c D A nL Q cells slots np L (.long x.toInt64 :: st) Rs) : q_V p l e R s m args below meth c D A nL Q cells slots pc L (.double x :: st) Rs := by
  subst hnp; subst hRC
  exact fun H locs ls hP hD hS hl => vn_d2l C.1 C.2.1 (by rw [hl.1]; exact C.2.2.1) C.2.2.2.1 hlink hnat hstat hinit hf hlo d (kk H locs ls hP hD hS hl)
end QD
