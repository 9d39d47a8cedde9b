/-! What stands in the heap before: the kinds of part, their words, the table of kinds -/
section QK
variable {p : Program} {l : Launch} {e : Env} {R : Room} {s : State} {m : MethodId} {args : Array Value} {below : List Frame} {meth : Method} {c : Code} {Q : State → Prop}
variable {D : va_G} {tys : List (ClassId × FieldType)} {A : Nat → Prop} {Z : (Nat → Prop) → State → Heap → Prop} {cc : ByteArray} {nL : Nat} {Ts : List Cond} {own : String} {cells slots pc : Nat} {L : List (Nat × Value)} {st : List Value} {Rs : List va_W}
variable {ad aw av : Nat → Nat} {tK : Nat}
theorem q_gets (C : q_C p s m args c cc nL Ts own D tys Z A) {Cn n d ref : String} {v : Value} {index : Nat} (hZ : va_Z Cn n d v A s s.heap) (hlink : (Cond.fieldLink own index ref n d).before args s = true) (hsame : ∀ x, s.fieldFound? Cn n d = some x → s.fieldFound? ref n d = some x) (dd : decode cc pc = .ok (.getstatic index, 3)) (np : Nat) (hnp : pc + 3 = np) (kk : q_V p l e R s m args below meth c D A nL Q cells slots np L (v :: st) Rs) : q_V p l e R s m args below meth c D A nL Q cells slots pc L st Rs := by
  subst hnp
  exact fun H locs ls hP hD hS hl => va_gets C.1 C.2.1 hZ hS C.2.2.2.1 hlink hsame dd (kk H locs ls hP hD hS hl)
theorem q_clq {q N : Nat} (hq : q < N) (hN : N < 2 ^ 31) : (nI q).toNatClampNeg = q := nI_clamp (Nat.lt_trans hq hN)
theorem q_tlen (C : q_C p s m args c cc nL Ts own D tys Z A) {ty : FieldType} {t N : Nat} {f : Nat → Value} (hT : va_T ty t N f A s s.heap) {v : Int32} (hv : Int32.ofNat N = v) (dd : decode cc pc = .ok (.arraylength, 1)) (np : Nat) (hnp : pc + 1 = np) (kk : q_V p l e R s m args below meth c D A nL Q cells slots np L (.int v :: st) Rs) : q_V p l e R s m args below meth c D A nL Q cells slots pc L (.ref t :: st) Rs := by
  subst hnp
  exact fun H locs ls hP hD hS hl => va_tlen C.1 C.2.1 hT hS hv dd (kk H locs ls hP hD hS hl)
end QK
/-! the numbers of a kind -/
section QKf
variable {ad aw av : Nat → Nat} {tK : Nat} {A : Nat → Prop} {U : State} {H : Heap}
end QKf
