/-! Exceptions: methods that throw, and their callers that catch -/
def q_exN : List String := ["java/lang/RuntimeException", "java/lang/Exception"]
def q_nx : List Cond := [.castable "java/lang/IndexOutOfBoundsException" "java/lang/IndexOutOfBoundsException", .castable "java/lang/IllegalStateException" "java/lang/IllegalStateException", .castable "java/lang/IllegalArgumentException" "java/lang/IllegalArgumentException", .declares ⟨"java/lang/RuntimeException", "<init>", "(Ljava/lang/String;)V"⟩, .declares ⟨"java/lang/Exception", "<init>", "(Ljava/lang/String;)V"⟩, .declares ⟨"java/lang/Throwable", "<init>", "(Ljava/lang/String;)V"⟩]
def q_msgs : List (Nat × String) := [(50, "there is no such letter"), (61, "the letter cannot be set"), (73, "beats is out of range"), (88, "the line has no such place"), (93, "the place cannot be corrected"), (106, "a box would overflow"), (117, "there is no such box"), (130, "there is no such setting"), (132, "value is out of range"), (138, "code is not 33 to 126"), (144, "the buffer is full"), (159, "the buffer is not complete works as a text"), (173, "what is neither 0 nor 1"), (175, "index is below 0"), (183, "there is no saved state"), (192, "there is no snapshot"), (194, "what is not 0 to 6"), (199, "deep is below 0"), (204, "what is not 0 to 3"), (209, "what is not 0 to 17"), (214, "times is out of range")]
def q_nc : List (String × String) := [("java/lang/IllegalStateException", "java/lang/IndexOutOfBoundsException"), ("java/lang/IllegalArgumentException", "java/lang/IndexOutOfBoundsException"), ("java/lang/IllegalStateException", "java/lang/IllegalArgumentException")]
def q_Xc (A : Nat → Prop) (U : State) (H : Heap) : Prop := (∀ w ∈ q_nx, va_Nw w U) ∧ (vx_Zq Bundle.tN "UNASSIGNED_STACK" Bundle.steD A U H ∧ vx_Zq Bundle.tN "SUPPRESSED_SENTINEL" Bundle.listD A U H) ∧ (∀ q ∈ q_msgs, ∃ sa, vk_R "SortCases" q.1 q.2 sa U) ∧ (∀ q ∈ q_nc, va_Nc q.1 q.2 U)
def q_Xs (Z : (Nat → Prop) → State → Heap → Prop) : Prop := ∀ (A : Nat → Prop) (U : State) (H : Heap), Z A U H → q_Xc A U H
/-- a method that throws an object of class E: the regions stay -/
def q_XP (D : va_G) (Rc : List va_W) (sz : Nat) (E : String) : String → State → State → Prop := fun E' st t => E' = E ∧ va_P D vwCl Rc.flatten t.heap ∧ va_F (va_A Rc.flatten sz) st t
def q_Xt (l : Launch) (D : va_G) (tys : List (ClassId × FieldType)) (Z : (Nat → Prop) → State → Heap → Prop) (y : MethodName) (ws : List Cond) (rm : Room) (mc ms : Nat) (avs : List Value) (Rc : List va_W) (E : String) : Prop :=
  ∀ sz : Nat, vx_Met l y ws rm (va_Pc avs (q_Pre D tys Z Rc sz)) (fun _ _ _ _ => False) (q_XP D Rc sz E) mc ms (va_A Rc.flatten sz)
def q_BX (D : va_G) (s : State) (args : Array Value) (below : List Frame) (meth : Method) (c : Code) (R : Room) (A : Nat → Prop) (Q : State → Prop) (rm : Room) (mc ms : Nat) (Rc : List va_W) (E : String) : Prop :=
  R = rm ∧ A = va_A Rc.flatten s.heap.size ∧ Q = vx_MQ below (fun _ _ _ _ => False) (q_XP D Rc s.heap.size E) args s mc ms (va_A Rc.flatten s.heap.size) ∧ meth.locks = false ∧ ∀ x ∈ c.exceptionTable.toList, False
section QE
variable {p : Program} {l : Launch} {e : Env} {R : Room} {s : State} {m : MethodId} {args : Array Value} {below : List Frame} {meth : Method} {c : Code} {Q : State → Prop}
variable {D : va_G} {tys : List (ClassId × FieldType)} {A : Nat → Prop} {Z : (Nat → Prop) → State → Heap → Prop} {cc : ByteArray} {nL : Nat} {Ts : List Cond} {own : String} {cells slots pc : Nat} {L : List (Nat × Value)} {st : List Value} {Rs : List va_W}
theorem q_xt {y : MethodName} {ws ws' : List Cond} {rm : Room} {mc ms : Nat} {avs : List Value} {Rc : List va_W} {E : String} {maxL : Nat} {ret : Option FieldType} (hy : plainName y.cls = true) (hw : ws = Cond.code y cc maxL ret :: ws') (hZ : q_St Z) (hav : (lg_sl avs).length ≤ maxL) (ho : y.cls = own)
    (body : ∀ (p : Program) (e : Env) (R : Room) (s : State) (m : MethodId) (args : Array Value) (below : List Frame) (meth : Method) (c : Code) (A : Nat → Prop) (Q : State → Prop), q_C p s m args c cc maxL ws own D tys Z A → q_BX D s args below meth c R A Q rm mc ms Rc E →
      q_V p l e R s m args below meth c D A maxL Q 0 0 0 (lv_args 0 avs) [] Rc) : q_Xt l D tys Z y ws rm mc ms avs Rc E := by
  intro sz
  refine vx_ofW (cc := cc) (maxL := maxL) (ret := ret) hy hw ?_
  intro p e s m args below meth c s₁ B hml ht hv
  obtain ⟨rfl, hsz, hP, hK, hD0, hZ0⟩ := hv
  subst hsz
  have hts := atoms_spec (ws := ws) B.pre
  have hown : s.vm.findClass own = some m.cls := by rw [← ho]; exact findClass_of_methodNamed B.named
  have hl := lv_entry avs (n := maxL) hav
  rw [lg_entry_eq]
  exact body p e rm s m _ below meth c _ _ ⟨B.exec, B.bytes, hml, hown, hts, hK, fun q h => Or.inr h, hZ0, hZ⟩ ⟨rfl, rfl, rfl, B.notSynchronized, ht⟩ s.heap [] _ hP hD0.self va_S.rf hl
theorem q_throwS (hX : q_Xs Z) (hl : l.stackTraces = false) {Rc : List va_W} {rm : Room} {mc ms : Nat} (C : q_C p s m args c cc nL Ts "SortCases" D tys Z A) {E text : String} {ik is ic : Nat} (B : q_BX D s args below meth c R A Q rm mc ms Rc E)
    (hk : (Cond.classLink "SortCases" ik E).before args s = true) (hini : (Cond.initialized E).before args s = true) (hg : ∀ w ∈ (vx_atS "SortCases" ic E q_exN).filter goodWord, w ∈ Ts) (hb : ∀ w ∈ (vx_atS "SortCases" ic E q_exN).filter (fun w => !goodWord w), w ∈ q_nx)
    (hgood : ∀ w ∈ Cond.classLink "SortCases" ik E :: Cond.initialized E :: vx_atS "SortCases" ic E q_exN, vx_ot w = true) (hfit : Bundle.fit E = true) (hnames : ∀ n ∈ q_exN, Bundle.fit n = true) (hmsg : (is, text) ∈ q_msgs)
    (d0 : decode cc pc = .ok (.new ik, 3)) (d3 : decode cc (pc + 3) = .ok (.dup, 1)) (d4 : decode cc (pc + 4) = .ok (.ldc is, 2)) (d6 : decode cc (pc + 6) = .ok (.invokespecial ic, 3)) (d9 : decode cc (pc + 9) = .ok (.athrow, 1))
    (hfr : 6 ≤ rm.frames) (hlo : (st.map fun v => v.category).sum + 82 ≤ rm.locals) (hc1 : cells + 1 ≤ rm.cells) (hs1 : slots + 6 ≤ rm.slots) (hmc : cells + 1 ≤ mc) (hms : slots + 6 ≤ ms) (hRs : Rs = Rc) : q_V p l e R s m args below meth c D A nL Q cells slots pc L st Rs := by
  obtain ⟨rfl, rfl, rfl, hlk, ht⟩ := B
  subst hRs
  intro H locs ls hP hD hS hl9
  obtain ⟨hw, ⟨hU, hN⟩, hm, -⟩ := hX _ _ _ C.2.2.2.2.2.2.2.1
  obtain ⟨sa, hsa⟩ := hm _ hmsg
  exact vx_throwS (names := q_exN) (text := text) (sa := sa) C.1 C.2.1 hl C.2.2.2.1 hfit hnames hk hini hsa (vx_hat (B := q_nx) (fun w h => C.2.2.2.2.1 w (hg w h)) hb (fun w h => va_Nw.use (by revert w; decide +kernel) (hw w h))) hgood hU hN hS (by rw [hl9.1]; exact C.2.2.1.symm) d0 d3 d4 d6 d9 (fun x hx => (ht x hx).elim) (by show 2 + 3 < _; omega) (by show _ + (13 * (2 + 1) + 43) ≤ _; omega) hc1 hs1 hlk
    (fun t ha h1 h2 => ⟨rfl, hP.kept (fun k q hk => h2 q.1 (hP k q hk).lt), Nat.le_trans hS.1 h1, fun q hq hnA => by rw [h2 q (Nat.lt_of_lt_of_le hq hS.1)]; exact hS.2.1 q hq hnA⟩) hS.2.2 hmc hms
/-- a call that throws, caught by a row of this method's table -/
theorem q_callXV (C : q_C p s m args c cc nL Ts own D tys Z A) {y : MethodName} {bytes : ByteArray} {maxL : Nat} {ret : Option FieldType} {ws ws' : List Cond} {rm : Room} {mc ms n index : Nat} {As rest : List Value} {Rc Rr : List va_W} {E name : String} {k ci b : Nat} {w : va_W} {Cn : String} {T : u_T} {N : Nat} (hk : Rs[k]? = some w) (hj : ∃ fs : List Value, w[0]? = some (b, .inr (ci, fs))) (hcl : vwCl[ci]? = some (Cn, T, N)) (hM : q_Xt l D tys Z y ws rm mc ms (.ref b :: As) Rc E) (hT : GoodIn Ts (wsV own index Cn y ws)) (hw : ws = Cond.code y bytes maxL ret :: ws') (hrc : rm.cells = mc) (hrs : rm.slots = ms) (hd : y.cls = Cn ∧ y.cls ≠ "java/lang/invoke/MethodHandle" ∧ y.cls ≠ "java/lang/invoke/VarHandle" ∧ (parseMethodDescriptor y.desc).map (fun d => d.parameters.length) = some n) {rmC : Room} (hRC : R = rmC) (hR : rm.frames + 1 ≤ rmC.frames ∧ 8 + (maxL + 11) + rm.locals ≤ rmC.locals) (hn : As.length = n) (hst : st = As.reverse ++ .ref b :: rest) (hcat : (rest.map fun v => v.category).sum ≤ 8) (d : decode cc pc = .ok (.invokevirtual index, 3)) (hf : cells + mc ≤ rmC.cells ∧ slots + ms ≤ rmC.slots) (isC isR : List Nat) (hp : (isC ++ isR).Perm (List.range Rs.length)) (hC : isC.filterMap (fun i => Rs[i]?) = Rc) (hRr : isR.filterMap (fun i => Rs[i]?) = Rr)
    (pre : List ExceptionTableEntry) (x : ExceptionTableEntry) (suf : List ExceptionTableEntry) (hsplit : c.exceptionTable.toList = pre ++ x :: suf) (hpass : ∀ z ∈ pre, covers z pc = false ∨ (z.catchType ≠ 0 ∧ ∃ nm : String, (Cond.classLink own z.catchType nm).before args s = true ∧ va_Nc E nm s)) (hx : covers x pc = true) (h0 : x.catchType ≠ 0) (hlink : (Cond.classLink own x.catchType name).before args s = true) (hcast : (Cond.castable E name).before args s = true) (np : Nat) (hnp : x.handlerPc = np)
    (kk : ∀ q : Nat, q_V p l e R s m args below meth c D A nL Q (cells + mc) (slots + ms) np L [.ref q] (Rc ++ Rr)) : q_V p l e R s m args below meth c D A nL Q cells slots pc L st Rs := by
  subst hnp; subst hst; subst hRC
  intro H locs ls hP hD hS hl T hT9 X
  have hperm := q_perm isC isR hp hC hRr
  have hF := q_freeA C hD hS hperm
  have hpre := q_preU (avs := (.ref b :: As)) C hP hD hS hperm hF
  have hrun := vx_runV (p := p) (l := l) (e := e) (below := below) (meth := meth) (R := R) (As := As) (rest := rest) (g := F0 m pc ls (As.reverse ++ .ref b :: rest)) (cells := cells) (slots := slots) (locs := locs) (H := H) ⟨C.1, C.2.1, C.2.2.1, C.2.2.2.1, C.2.2.2.2.1⟩ (hM H.size) (cwV n C.2.2.2.2.1 hT hw hrc hrs hd hR) ⟨hpre.1, q_recv C hP hk hj hcl, hpre.2⟩ rfl hn (by rw [← hl.1]) rfl (lv_room hcat) d hf
  rcases hrun T hT9 X with ⟨v, st₀, t, T', LL, h1, X', hL, e1, e2, hq, stp⟩ | ⟨q, st₀, t, T', LL, E', ce, h1, X', hL, e1, e2, ⟨hE, hP1, hz, hk2⟩, hce, hcv, hcl2, stp⟩
  · exact hq.elim
  · subst hE
    rw [h1] at hz hk2
    have hDc : va_D (fun _ => True) Rc.flatten := by
      rw [q_Dm] at hD ⊢
      have hn9 : ((Rc.flatten ++ Rr.flatten).map Prod.fst).Nodup := (hperm.map Prod.fst).nodup_iff.mp hD.1
      rw [List.map_append, List.nodup_append] at hn9
      exact ⟨hn9.1, fun _ _ => trivial⟩
    obtain ⟨hPj, hDj⟩ := q_join hP hD hperm hk2 hF hP1 (hDc.self)
    rw [← e1] at hPj hz
    have hkk := kk q T'.heap (locs ++ LL) ls hPj hDj ⟨Nat.le_trans hS.1 hz, fun q h1 h2 => by rw [e1, hk2 q (Nat.lt_of_lt_of_le h1 hS.1) (fun z => h2 (hF q z))]; exact hS.2.1 q h1 h2, fun q hq => by
      rcases List.mem_append.mp hq with h | h
      · exact hS.2.2 q h
      · exact hF _ (hL q h)⟩ hl
    obtain ⟨t2, a1, b1⟩ := vx_catch (rest := rest) C.2.2.2.1 pre x suf hsplit hpass hx h0 hlink hcast (by rw [e1]; exact hce) hcv hcl2 hkk T' rfl X'
    exact ⟨t2, stp.trans a1, b1⟩
/-- a method with a table of its own, out of which nothing is thrown -/
theorem q_ctW {y : MethodName} {ws ws' : List Cond} {rm : Room} {mc ms : Nat} {avs : List Value} {Rc : List va_W} {Post : Option Value → List va_W → State → Prop} {maxL : Nat} {ret : Option FieldType} {hh : List (Nat × Nat × Nat × Nat)} (hy : plainName y.cls = true) (hw : ws = Cond.codeWith y cc maxL ret hh :: ws') (hZ : q_St Z) (hav : (lg_sl avs).length ≤ maxL) (ho : y.cls = own)
    (body : ∀ (p : Program) (e : Env) (R : Room) (s : State) (m : MethodId) (args : Array Value) (below : List Frame) (meth : Method) (c : Code) (A : Nat → Prop) (Q : State → Prop), q_C p s m args c cc maxL ws own D tys Z A → q_B D s args below meth R A Q rm mc ms Rc Post ret y.name → c.exceptionTable.toList = tableOf hh →
      q_V p l e R s m args below meth c D A maxL Q 0 0 0 (lv_args 0 avs) [] Rc) : q_Ct l D tys Z y ws rm mc ms avs Rc Post := by
  intro sz
  refine va_MetW (cc := cc) (maxL := maxL) (ret := ret) (hh := hh) hy hw ?_
  intro p e s m args below meth c s₁ B hml hv
  obtain ⟨rfl, hsz, hP, hK, hD0, hZ0⟩ := hv
  subst hsz
  have hts := atoms_spec (ws := ws) B.pre
  have hown : s.vm.findClass own = some m.cls := by rw [← ho]; exact findClass_of_methodNamed B.named
  have hl := lv_entry avs (n := maxL) hav
  have hnm := (name_of_methodNamed B.named B.method).1
  have hTab := vx_table (x := y) B (hts _ (by rw [hw]; exact List.mem_cons_self))
  rw [lg_entry_eq]
  exact body p e rm s m _ below meth c _ _ ⟨B.exec, B.bytes, hml, hown, hts, hK, fun q h => Or.inr h, hZ0, hZ⟩ ⟨rfl, rfl, rfl, B.returns, B.notSynchronized, hnm⟩ hTab s.heap [] _ hP hD0.self va_S.rf hl
/-- a long into an array -/
theorem q_last (C : q_C p s m args c cc nL Ts own D tys Z A) {k j t0 : Nat} {w : va_W} {a N : Nat} {cA : ClassId} {f : Nat → Int64} {i : Int32} {x : Int64} (d : decode cc pc = .ok (.lastore, 1)) (n : Nat) (hn : pc + 1 = n) (hk : Rs[k]? = some w) (hj : w[j]? = some (a, .inl (cA, N, .inr (.inl f)))) (ht : tys[t0]? = some (cA, .long)) (q : Nat) (hi : i = nI q) (hq : q < N) (hN : N < 2 ^ 31) (Rs' : List va_W) (hR : Rs.set k (w.set j (a, .inl (cA, N, .inr (.inl (va_up f q x))))) = Rs')
    (kk : q_V p l e R s m args below meth c D A nL Q cells slots n L st Rs') : q_V p l e R s m args below meth c D A nL Q cells slots pc L (.long x :: .int i :: .ref a :: st) Rs := by
  subst hn; subst hi; subst hR
  obtain ⟨q0, h1, h2⟩ := q_flat hk hj
  refine fun H locs ls hP hD hS hl => va_last C.1 C.2.1 C.2.2.2.2.2.1 hP hD hS q0 t0 h1 ht (vp_in_nI hq hN) d (fun H1 locs1 hP1 hD1 hS1 => ?_)
  rw [nI_clamp (Nat.lt_trans hq hN)] at hP1 hD1
  exact kk H1 locs1 ls (by rw [← h2]; exact hP1) (by rw [← h2]; exact hD1) hS1 hl
/-- out of an int array that stood before -/
theorem q_ti (C : q_C p s m args c cc nL Ts own D tys Z A) {t N : Nat} {f : Nat → Value} (hT : va_T .int t N f A s s.heap) {i : Int32} (q : Nat) (hi : i = nI q) (hq : q < N) (hN : N < 2 ^ 31) {v : Value} (hv : f q = v) (dd : decode cc pc = .ok (.iaload, 1)) (np : Nat) (hnp : pc + 1 = np) (kk : q_V p l e R s m args below meth c D A nL Q cells slots np L (v :: st) Rs) : q_V p l e R s m args below meth c D A nL Q cells slots pc L (.int i :: .ref t :: st) Rs := by
  subst hnp; subst hi
  exact fun H locs ls hP hD hS hl => va_ti C.1 C.2.1 hT hS (vp_in_nI hq hN) (by rw [q_clq hq hN]; exact hv) dd (kk H locs ls hP hD hS hl)
end QE
