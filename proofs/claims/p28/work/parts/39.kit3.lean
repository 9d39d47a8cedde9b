/-! New cells: a region of its own for each, behind the others -/
section QW3
variable {p : Program} {l : Launch} {e : Env} {R : Room} {s : State} {m : MethodId} {args : Array Value} {below : List Frame} {meth : Method} {c : Code} {Q : State → Prop}
variable {D : va_G} {tys : List (ClassId × FieldType)} {A : Nat → Prop} {Z : (Nat → Prop) → State → Heap → Prop} {cc : ByteArray} {nL : Nat} {Ts : List Cond} {own : String} {cells slots pc : Nat} {L : List (Nat × Value)} {st : List Value} {Rs : List va_W}
theorem q_flat1 (Rs : List va_W) (x : Nat × va_E) : (Rs ++ [[x]]).flatten = Rs.flatten ++ [x] := by
  rw [List.flatten_append]; rfl
theorem q_RA {cA cI : ClassId} (h1 : va_RA s cA .int) (h2 : va_RA s cI .int) : cA = cI := by
  have e1 : s.vm.findClass ("[" ++ FieldType.int.toString) = some cA := h1
  have e2 : s.vm.findClass ("[" ++ FieldType.int.toString) = some cI := h2
  rw [e1] at e2
  cases e2
  rfl
theorem q_newa (C : q_C p s m args c cc nL Ts own D tys Z A) {cI : ClassId} (hI : tys[0]? = some (cI, .int)) (harr : (Cond.arrayClass .int).before args s = true) {rmC : Room} (hRC : R = rmC) {n : Int32} {N : Nat} (d : decode cc pc = .ok (.newarray .int, 2)) (np : Nat) (hnp : pc + 2 = np) (hn : ¬ n < 0) (hN : n.toNatClampNeg = N) (hb : N * 4 ≤ 536870912) (hc : cells + 1 ≤ rmC.cells) (hs : slots + N ≤ rmC.slots)
    (kk : ∀ q : Nat, q_V p l e R s m args below meth c D A nL Q (cells + 1) (slots + N) np L (.ref q :: st) (Rs ++ [[(q, .inl (cI, N, .inl (fun _ => 0)))]])) : q_V p l e R s m args below meth c D A nL Q cells slots pc L (.int n :: st) Rs := by
  subst hnp; subst hRC
  have hty : newarray.typeOf .int = .int := rfl
  have hb4 : N * componentBytes .int ≤ 536870912 := by rw [show componentBytes .int = 4 from rfl]; exact hb
  have ha : ∀ cA : ClassId, vp_cell cA ((N, .inl (fun _ => 0)) : vp_A) = arrV cA N (fun _ => defaultValue .int) := fun cA => rfl
  refine fun H locs ls hP hD hS hl => va_newa (atype := .int) (ty := .int) (N' := N) (a0 := (N, .inl (fun _ => 0))) C.1 C.2.1 (by rw [hty]; exact harr) hty C.2.2.2.2.2.1 hP hD hS C.2.2.2.2.2.2.1 ha hn hN hb4 hc hs d (fun q cA H1 hK1 hP1 hD1 hS1 => ?_)
  have h1 := (hK1.2 tys.length (cA, .int) (by rw [List.getElem?_append_right (Nat.le_refl _), Nat.sub_self]; rfl)).2
  have h2 := (C.2.2.2.2.2.1.2 0 (cI, .int) hI).2
  obtain rfl := q_RA h1 h2
  exact kk q H1 locs ls (by rw [q_flat1]; exact hP1) (by rw [q_flat1]; exact hD1) hS1 hl
theorem q_new (C : q_C p s m args c cc nL Ts own D tys Z A) {Cn : String} {T : u_T} {N ci index : Nat} (hin : ∀ w ∈ u_ws Cn T N, w ∈ Ts) (ty : Nat → FieldType) (hty : ∀ k, k < N → parseFieldDescriptor (T k).2.2.1 = some (ty k)) (hcl : (Cond.classLink own index Cn).before args s = true) (hinst : (Cond.instantiable Cn N).before args s = true) (hini : (Cond.initialized Cn).before args s = true) (hc : vwCl[ci]? = some (Cn, T, N)) {fs : List Value} (hfs : ∀ j, j < N → defaultValue (ty j) = vp_V fs j) {rmC : Room} (hRC : R = rmC) (hcells : cells + 1 ≤ rmC.cells) (hslots : slots + N ≤ rmC.slots) (d : decode cc pc = .ok (.new index, 3)) (np : Nat) (hnp : pc + 3 = np)
    (kk : ∀ q : Nat, q_V p l e R s m args below meth c D A nL Q (cells + 1) (slots + N) np L (.ref q :: st) (Rs ++ [[(q, .inr (ci, fs))]])) : q_V p l e R s m args below meth c D A nL Q cells slots pc L st Rs := by
  subst hnp; subst hRC
  refine fun H locs ls hP hD hS hl => va_new C.1 C.2.1 C.2.2.2.2.1 hin ty hty C.2.2.2.1 hcl hinst hini C.2.2.2.2.2.1 hP hD hS C.2.2.2.2.2.2.1 hc hfs hcells hslots d (fun q H1 hP1 hD1 hS1 => ?_)
  exact kk q H1 locs ls (by rw [q_flat1]; exact hP1) (by rw [q_flat1]; exact hD1) hS1 hl
theorem q_objInit (C : q_C p s m args c cc nL Ts own D tys Z A) {index : Nat} (hlink : (Cond.methodLink own index Lib.objectInit).before args s = true) (hinst : (Cond.instanceMethod Lib.objectInit).before args s = true) (hcode : (Cond.code Lib.objectInit ⟨#[0xb1]⟩ 1 none).before args s = true) {rmC : Room} (hRC : R = rmC) (hf : 1 ≤ rmC.frames) (hlo : (st.map fun v => v.category).sum + 12 ≤ rmC.locals) {a : Nat} (d : decode cc pc = .ok (.invokespecial index, 3)) (np : Nat) (hnp : pc + 3 = np)
    (kk : q_V p l e R s m args below meth c D A nL Q cells slots np L st Rs) : q_V p l e R s m args below meth c D A nL Q cells slots pc L (.ref a :: st) Rs := by
  subst hnp; subst hRC
  exact fun H locs ls hP hD hS hl => W.objInit C.1 C.2.1 C.2.2.2.1 hlink hinst hcode rfl (by show ls.size = _; rw [hl.1]; exact C.2.2.1.symm) rfl d hf (by show 2 * 0 + _ + 12 ≤ _; omega) (kk H locs ls hP hD hS hl)
/-- a reference is taken out of an array of references -/
theorem q_aldq (C : q_C p s m args c cc nL Ts own D tys Z A) {k j t0 : Nat} {w : va_W} {a : Nat} {cA : ClassId} {N : Nat} {Cn : String} {f : Nat → Option Nat} {i : Int32} (d : decode cc pc = .ok (.aaload, 1)) (n : Nat) (hn : pc + 1 = n) (hk : Rs[k]? = some w) (hj : w[j]? = some (a, .inl (cA, N, .inr (.inr (.inr (.inr f)))))) (ht : tys[t0]? = some (cA, .object Cn)) (q : Nat) (hi : i = nI q) (hq : q < N) (hN : N < 2 ^ 31) {v : Value} (hv : va_rf (f q) = v) (kk : q_V p l e R s m args below meth c D A nL Q cells slots n L (v :: st) Rs) : q_V p l e R s m args below meth c D A nL Q cells slots pc L (.int i :: .ref a :: st) Rs := by
  subst hn; subst hi; subst hv
  obtain ⟨q0, h1, -⟩ := q_flat hk hj
  refine fun H locs ls hP hD hS hl => va_aldq C.1 C.2.1 C.2.2.2.2.2.1 hP q0 t0 h1 ht (vp_in_nI hq hN) d ?_
  rw [nI_clamp (Nat.lt_trans hq hN)]
  exact kk H locs ls hP hD hS hl
end QW3
