/-! Exceptions: methods that throw, and their callers that catch -/
section QE
variable {p : Program} {l : Launch} {e : Env} {R : Room} {s : State} {m : MethodId} {args : Array Value} {below : List Frame} {meth : Method} {c : Code} {Q : State → Prop}
variable {D : va_G} {tys : List (ClassId × FieldType)} {A : Nat → Prop} {Z : (Nat → Prop) → State → Heap → Prop} {cc : ByteArray} {nL : Nat} {Ts : List Cond} {own : String} {cells slots pc : Nat} {L : List (Nat × Value)} {st : List Value} {Rs : List va_W}
/-- out of an int array that stood before -/
theorem q_ti (C : q_C p s m args c cc nL Ts own D tys Z A) {t N : Nat} {f : Nat → Value} (hT : va_T .int t N f A s s.heap) {i : Int32} (q : Nat) (hi : i = nI q) (hq : q < N) (hN : N < 2 ^ 31) {v : Value} (hv : f q = v) (dd : decode cc pc = .ok (.iaload, 1)) (np : Nat) (hnp : pc + 1 = np) (kk : q_V p l e R s m args below meth c D A nL Q cells slots np L (v :: st) Rs) : q_V p l e R s m args below meth c D A nL Q cells slots pc L (.int i :: .ref t :: st) Rs := by
  subst hnp; subst hi
  exact fun H locs ls hP hD hS hl => va_ti C.1 C.2.1 hT hS (vp_in_nI hq hN) (by rw [q_clq hq hN]; exact hv) dd (kk H locs ls hP hD hS hl)
end QE
