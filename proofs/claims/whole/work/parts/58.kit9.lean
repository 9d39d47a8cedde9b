/-! Rows for the law's own body -/
section QL
variable {p : Program} {l : Launch} {e : Env} {R : Room} {s : State} {m : MethodId} {args : Array Value} {below : List Frame} {meth : Method} {c : Code} {Q : State → Prop}
variable {D : va_G} {tys : List (ClassId × FieldType)} {A : Nat → Prop} {Z : (Nat → Prop) → State → Heap → Prop} {cc : ByteArray} {nL : Nat} {Ts : List Cond} {own : String} {cells slots pc : Nat} {L : List (Nat × Value)} {st : List Value} {Rs : List va_W}
/-- regions cut otherwise, the same cells in the same order -/
theorem q_Cflat {y : MethodName} {ws : List Cond} {rm : Room} {mc ms : Nat} {avs : List Value} {Rc Rc' : List va_W} {Post : Option Value → List va_W → State → Prop} (h : Rc.flatten = Rc'.flatten) (hM : q_Ct l D tys Z y ws rm mc ms avs Rc Post) : q_Ct l D tys Z y ws rm mc ms avs Rc' Post := by
  intro sz
  have h1 := hM sz
  unfold q_Pre q_Post at h1 ⊢
  rw [h] at h1
  exact h1
theorem q_Xflat {y : MethodName} {ws : List Cond} {rm : Room} {mc ms : Nat} {avs : List Value} {Rc Rc' : List va_W} {E : String} (h : Rc.flatten = Rc'.flatten) (hM : q_Xt l D tys Z y ws rm mc ms avs Rc E) : q_Xt l D tys Z y ws rm mc ms avs Rc' E := by
  intro sz
  have h1 := hM sz
  unfold q_Pre q_XP at h1 ⊢
  rw [h] at h1
  exact h1
/-- a static method with a table of its own -/
theorem q_callSW (C : q_C p s m args c cc nL Ts own D tys Z A) {y : MethodName} {bytes : ByteArray} {maxL : Nat} {ret : Option FieldType} {hh : List (Nat × Nat × Nat × Nat)} {ws ws' : List Cond} {rm : Room} {mc ms n index : Nat} {As rest : List Value} {Rc Rr : List va_W} {Post : Option Value → List va_W → State → Prop} (hM : q_Ct l D tys Z y ws rm mc ms As Rc Post) (hT : GoodIn Ts (va_wsS own index y ws)) (hw : ws = Cond.codeWith y bytes maxL ret hh :: ws') (hrc : rm.cells = mc) (hrs : rm.slots = ms) (hd : y.cls ≠ "java/lang/invoke/MethodHandle" ∧ y.cls ≠ "java/lang/invoke/VarHandle" ∧ (parseMethodDescriptor y.desc).map (fun d => d.parameters.length) = some n) {rmC : Room} (hRC : R = rmC) (hR : rm.frames + 1 ≤ rmC.frames ∧ 8 + (maxL + 11) + rm.locals ≤ rmC.locals) (hn : As.length = n) (hst : st = As.reverse ++ rest) (hcat : (rest.map fun v => v.category).sum ≤ 8) (d : decode cc pc = .ok (.invokestatic index, 3)) (hf : cells + mc ≤ rmC.cells ∧ slots + ms ≤ rmC.slots) (isC isR : List Nat) (hp : (isC ++ isR).Perm (List.range Rs.length)) (hC : isC.filterMap (fun i => Rs[i]?) = Rc) (hRr : isR.filterMap (fun i => Rs[i]?) = Rr) (np : Nat) (hnp : pc + 3 = np) (kk : ∀ (v : Option Value) (R' : List va_W) (t : State), s.vm.Alike t.vm → Post v R' t → q_V p l e R s m args below meth c D A nL Q (cells + mc) (slots + ms) np L (v.toList ++ rest) (R' ++ Rr)) : q_V p l e R s m args below meth c D A nL Q cells slots pc L st Rs := by
  subst hnp; subst hst; subst hRC
  refine q_core (a := As.toArray) C isC isR hp hC hRr (fun H locs ls hP hD hS hl => ?_) kk
  have hperm := q_perm isC isR hp hC hRr
  have hpre := q_preU (avs := As) C hP hD hS hperm (q_freeA C hD hS hperm)
  exact vx_runSW ⟨C.1, C.2.1, C.2.2.1, C.2.2.2.1, C.2.2.2.2.1⟩ (hM H.size) (vx_cwSW n C.2.2.2.2.1 hT hw hrc hrs hd hR) hpre rfl hn (by rw [← hl.1]) rfl (lv_room hcat) d hf
/-- the script -/
theorem q_sld (C : q_C p s m args c cc nL Ts own D tys Z A) {b N : Nat} {xs : Nat → Int32} (hX : va_X b N xs s s.heap) (hb : b < s.heap.size) (hA : ¬ A b) {i : Int32} (q : Nat) (hi : i = nI q) (hq : q < N) (hN : N < 2 ^ 31) {v : Int32} (hv : xs q = v) (d : decode cc pc = .ok (.iaload, 1)) (np : Nat) (hnp : pc + 1 = np) (kk : q_V p l e R s m args below meth c D A nL Q cells slots np L (.int v :: st) Rs) : q_V p l e R s m args below meth c D A nL Q cells slots pc L (.int i :: .ref b :: st) Rs := by
  subst hnp; subst hi; subst hv
  refine fun H locs ls hP hD hS hl => va_sld C.1 C.2.1 hX hb hA hS (vp_in_nI hq hN) d ?_
  rw [q_clq hq hN]
  exact kk H locs ls hP hD hS hl
theorem q_slen (C : q_C p s m args c cc nL Ts own D tys Z A) {b N : Nat} {xs : Nat → Int32} (hX : va_X b N xs s s.heap) (hb : b < s.heap.size) (hA : ¬ A b) {v : Int32} (hv : Int32.ofNat N = v) (d : decode cc pc = .ok (.arraylength, 1)) (np : Nat) (hnp : pc + 1 = np) (kk : q_V p l e R s m args below meth c D A nL Q cells slots np L (.int v :: st) Rs) : q_V p l e R s m args below meth c D A nL Q cells slots pc L (.ref b :: st) Rs := by
  subst hnp; subst hv
  exact fun H locs ls hP hD hS hl => va_slen C.1 C.2.1 hX hb hA hS d (kk H locs ls hP hD hS hl)
/-- a long out of an array -/
theorem q_lald (C : q_C p s m args c cc nL Ts own D tys Z A) {k j t0 : Nat} {w : va_W} {a N : Nat} {cA : ClassId} {f : Nat → Int64} {i : Int32} {v : Int64} (d : decode cc pc = .ok (.laload, 1)) (n : Nat) (hn : pc + 1 = n) (hk : Rs[k]? = some w) (hj : w[j]? = some (a, .inl (cA, N, .inr (.inl f)))) (ht : tys[t0]? = some (cA, .long)) (q : Nat) (hi : i = nI q) (hq : q < N) (hN : N < 2 ^ 31) (hv : f q = v) (kk : q_V p l e R s m args below meth c D A nL Q cells slots n L (.long v :: st) Rs) : q_V p l e R s m args below meth c D A nL Q cells slots pc L (.int i :: .ref a :: st) Rs := by
  subst hn; subst hi; subst hv
  obtain ⟨q0, h1, -⟩ := q_flat hk hj
  refine fun H locs ls hP hD hS hl => va_lald C.1 C.2.1 C.2.2.2.2.2.1 hP q0 t0 h1 ht (vp_in_nI hq hN) d ?_
  rw [q_clq hq hN]
  exact kk H locs ls hP hD hS hl
theorem q_RAl {cA cI : ClassId} (h1 : va_RA s cA .long) (h2 : va_RA s cI .long) : cA = cI := by
  have e1 : s.vm.findClass ("[" ++ FieldType.long.toString) = some cA := h1
  have e2 : s.vm.findClass ("[" ++ FieldType.long.toString) = some cI := h2
  rw [e1] at e2
  cases e2
  rfl
theorem q_newl (C : q_C p s m args c cc nL Ts own D tys Z A) {cJ : ClassId} (hJ : tys[2]? = some (cJ, .long)) (harr : (Cond.arrayClass .long).before args s = true) {rmC : Room} (hRC : R = rmC) {n : Int32} {N : Nat} (d : decode cc pc = .ok (.newarray .long, 2)) (np : Nat) (hnp : pc + 2 = np) (hn : ¬ n < 0) (hN : n.toNatClampNeg = N) (hb : N * 8 ≤ 536870912) (hc : cells + 1 ≤ rmC.cells) (hs : slots + N ≤ rmC.slots)
    (kk : ∀ q : Nat, q_V p l e R s m args below meth c D A nL Q (cells + 1) (slots + N) np L (.ref q :: st) (Rs ++ [[(q, .inl (cJ, N, .inr (.inl (fun _ => 0))))]])) : q_V p l e R s m args below meth c D A nL Q cells slots pc L (.int n :: st) Rs := by
  subst hnp; subst hRC
  have hty : newarray.typeOf .long = .long := rfl
  have hb4 : N * componentBytes .long ≤ 536870912 := by rw [show componentBytes .long = 8 from rfl]; exact hb
  have ha : ∀ cA : ClassId, vp_cell cA ((N, .inr (.inl (fun _ => 0))) : vp_A) = arrV cA N (fun _ => defaultValue .long) := fun cA => rfl
  refine fun H locs ls hP hD hS hl => va_newa (atype := .long) (ty := .long) (N' := N) (a0 := (N, .inr (.inl (fun _ => 0)))) C.1 C.2.1 (by rw [hty]; exact harr) hty C.2.2.2.2.2.1 hP hD hS C.2.2.2.2.2.2.1 ha hn hN hb4 hc hs d (fun q cA H1 hK1 hP1 hD1 hS1 => ?_)
  have h1 := (hK1.2 tys.length (cA, .long) (by rw [List.getElem?_append_right (Nat.le_refl _), Nat.sub_self]; rfl)).2
  have h2 := (C.2.2.2.2.2.1.2 2 (cJ, .long) hJ).2
  obtain rfl := q_RAl h1 h2
  exact kk q H1 locs ls (by rw [q_flat1]; exact hP1) (by rw [q_flat1]; exact hD1) hS1 hl
/-- the array classes of the whole claim -/
theorem q_tys3 {dC : Nat → ClassId} {dI : Nat → Nat → Nat} {cl : List vw_C} (h1 : (Cond.arrayClass .int).before args s = true) (h2 : va_AO "SortCases$State" s) (h3 : (Cond.arrayClass .long).before args s = true) (hK : ∀ (k : Nat) (q : vw_C), cl[k]? = some q → u_Kn s q.1 q.2.1 q.2.2 (dC k) (dI k)) : ∃ cI cG cJ : ClassId, va_K (dC, dI) cl [(cI, .int), (cG, .object "SortCases$State"), (cJ, .long)] s := by
  obtain ⟨cI, kI, compI, a1, a2, a3⟩ := Cond.arrayClass_spec h1
  obtain ⟨comp, cG, kG, b1, -, b3, b4, b5⟩ := Cond.arrayOver_spec h2
  obtain ⟨cJ, kJ, compJ, d1, d2, d3⟩ := Cond.arrayClass_spec h3
  refine ⟨cI, cG, cJ, hK, fun k q hq => ?_⟩
  match k, hq with
  | 0, hq =>
    cases hq
    exact ⟨fun n z => ⟨fun k h => (by cases h), kI, a2, compI, a3⟩, a1⟩
  | 1, hq =>
    cases hq
    exact ⟨fun n z => ⟨fun k h => (by cases h), kG, b3, comp, b4⟩, kG, comp, b3, b4, b1, b5⟩
  | 2, hq =>
    cases hq
    exact ⟨fun n z => ⟨fun k h => (by cases h), kJ, d2, compJ, d3⟩, d1⟩
  | k + 3, hq => simp at hq
end QL
