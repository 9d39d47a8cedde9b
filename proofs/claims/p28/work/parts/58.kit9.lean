/-! Rows for the law's own body -/
section QL
variable {p : Program} {l : Launch} {e : Env} {R : Room} {s : State} {m : MethodId} {args : Array Value} {below : List Frame} {meth : Method} {c : Code} {Q : State → Prop}
variable {D : va_G} {tys : List (ClassId × FieldType)} {A : Nat → Prop} {Z : (Nat → Prop) → State → Heap → Prop} {cc : ByteArray} {nL : Nat} {Ts : List Cond} {own : String} {cells slots pc : Nat} {L : List (Nat × Value)} {st : List Value} {Rs : List va_W}
/-- the script -/
theorem q_sld (C : q_C p s m args c cc nL Ts own D tys Z A) {b N : Nat} {xs : Nat → Int32} (hX : va_X b N xs s s.heap) (hb : b < s.heap.size) (hA : ¬ A b) {i : Int32} (q : Nat) (hi : i = nI q) (hq : q < N) (hN : N < 2 ^ 31) {v : Int32} (hv : xs q = v) (d : decode cc pc = .ok (.iaload, 1)) (np : Nat) (hnp : pc + 1 = np) (kk : q_V p l e R s m args below meth c D A nL Q cells slots np L (.int v :: st) Rs) : q_V p l e R s m args below meth c D A nL Q cells slots pc L (.int i :: .ref b :: st) Rs := by
  subst hnp; subst hi; subst hv
  refine fun H locs ls hP hD hS hl => va_sld C.1 C.2.1 hX hb hA hS (vp_in_nI hq hN) d ?_
  rw [q_clq hq hN]
  exact kk H locs ls hP hD hS hl
theorem q_slen (C : q_C p s m args c cc nL Ts own D tys Z A) {b N : Nat} {xs : Nat → Int32} (hX : va_X b N xs s s.heap) (hb : b < s.heap.size) (hA : ¬ A b) {v : Int32} (hv : Int32.ofNat N = v) (d : decode cc pc = .ok (.arraylength, 1)) (np : Nat) (hnp : pc + 1 = np) (kk : q_V p l e R s m args below meth c D A nL Q cells slots np L (.int v :: st) Rs) : q_V p l e R s m args below meth c D A nL Q cells slots pc L (.ref b :: st) Rs := by
  subst hnp; subst hv
  exact fun H locs ls hP hD hS hl => va_slen C.1 C.2.1 hX hb hA hS d (kk H locs ls hP hD hS hl)
end QL
