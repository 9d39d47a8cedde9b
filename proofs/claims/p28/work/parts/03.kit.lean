/-! MY KIT: a world is a list of regions (each a list of cells); a judgement q_V speaks of the locals, the stack, and the regions alone; contracts q_Ct -/
theorem q_flat {Rs : List va_W} {k j : Nat} {w : va_W} {x : Nat × va_E} (hk : Rs[k]? = some w) (hj : w[j]? = some x) : ∃ q0 : Nat, Rs.flatten[q0]? = some x ∧ ∀ y, Rs.flatten.set q0 y = (Rs.set k (w.set j y)).flatten := by
  induction Rs generalizing k with
  | nil => simp at hk
  | cons v Rs ih =>
    cases k with
    | zero =>
      simp only [List.getElem?_cons_zero, Option.some.injEq] at hk
      subst hk
      have hl : j < v.length := (List.getElem?_eq_some_iff.mp hj).1
      refine ⟨j, ?_, fun y => ?_⟩
      · rw [List.flatten_cons, List.getElem?_append_left hl]; exact hj
      · rw [List.flatten_cons, List.set_append, if_pos hl]; rfl
    | succ k =>
      rw [List.getElem?_cons_succ] at hk
      obtain ⟨q0, h1, h2⟩ := ih hk
      refine ⟨v.length + q0, ?_, fun y => ?_⟩
      · rw [List.flatten_cons, List.getElem?_append_right (by omega), show v.length + q0 - v.length = q0 by omega]; exact h1
      · rw [List.flatten_cons, List.set_append, if_neg (by omega), show v.length + q0 - v.length = q0 by omega, h2 y]; rfl
theorem q_Pm {D : va_G} {cl : List vw_C} {ws : va_W} {H : Heap} : va_P D cl ws H ↔ ∀ q ∈ ws, va_at D cl q H := by
  constructor
  · intro h q hq
    obtain ⟨i, hi⟩ := List.getElem?_of_mem hq
    exact h i q hi
  · intro h k q hk
    exact h q (List.mem_of_getElem? hk)
theorem q_Dm {A : Nat → Prop} {ws : va_W} : va_D A ws ↔ (ws.map Prod.fst).Nodup ∧ ∀ q ∈ ws, A q.1 := by
  constructor
  · intro h
    refine ⟨?_, fun q hq => ?_⟩
    · refine List.pairwise_iff_getElem.mpr (fun i j hi hj hij he => ?_)
      have hi' : i < ws.length := by rw [List.length_map] at hi; exact hi
      have hj' : j < ws.length := by rw [List.length_map] at hj; exact hj
      rw [List.getElem_map, List.getElem_map] at he
      have := h.1 i j ws[i] ws[j] (List.getElem?_eq_getElem hi') (List.getElem?_eq_getElem hj') he
      omega
    · obtain ⟨i, hi⟩ := List.getElem?_of_mem hq
      exact h.2 i q hi
  · intro h
    refine ⟨fun i j p q hi hj he => ?_, fun k q hk => h.2 q (List.mem_of_getElem? hk)⟩
    have hn := List.pairwise_iff_getElem.mp h.1
    obtain ⟨hli, e1⟩ := List.getElem?_eq_some_iff.mp hi
    obtain ⟨hlj, e2⟩ := List.getElem?_eq_some_iff.mp hj
    have hli' : i < (ws.map Prod.fst).length := by rw [List.length_map]; exact hli
    have hlj' : j < (ws.map Prod.fst).length := by rw [List.length_map]; exact hlj
    have f1 : (ws.map Prod.fst)[i] = p.1 := by rw [List.getElem_map, e1]
    have f2 : (ws.map Prod.fst)[j] = q.1 := by rw [List.getElem_map, e2]
    rcases Nat.lt_trichotomy i j with c | c | c
    · exact absurd (f1.trans (he.trans f2.symm)) (hn i j hli' hlj' c)
    · exact c
    · exact absurd (f2.trans (he.symm.trans f1.symm)) (hn j i hlj' hli' c)
theorem q_pickAll (Rs : List va_W) : (List.range Rs.length).filterMap (fun i => Rs[i]?) = Rs := by
  induction Rs with
  | nil => rfl
  | cons v Rs ih =>
    rw [List.length_cons, List.range_succ_eq_map, List.filterMap_cons]
    simp only [List.getElem?_cons_zero, List.filterMap_map]
    congr 1
theorem q_perm {Rs Rc Rr : List va_W} (isC isR : List Nat) (hp : (isC ++ isR).Perm (List.range Rs.length)) (hC : isC.filterMap (fun i => Rs[i]?) = Rc) (hR : isR.filterMap (fun i => Rs[i]?) = Rr) : Rs.flatten.Perm (Rc.flatten ++ Rr.flatten) := by
  have h1 : ((isC ++ isR).filterMap (fun i => Rs[i]?)).Perm ((List.range Rs.length).filterMap (fun i => Rs[i]?)) := hp.filterMap _
  rw [q_pickAll, List.filterMap_append, hC, hR] at h1
  rw [← List.flatten_append]
  exact h1.symm.flatten
theorem q_join {D : va_G} {cl : List vw_C} {A : Nat → Prop} {Rs Rc Rr R' : List va_W} {H H1 : Heap} (hP : va_P D cl Rs.flatten H) (hD : va_D A Rs.flatten) (hp : Rs.flatten.Perm (Rc.flatten ++ Rr.flatten))
    (hk : ∀ q : Nat, q < H.size → ¬ va_A Rc.flatten H.size q → H1[q]? = H[q]?) (hF : ∀ q, va_A Rc.flatten H.size q → A q) (hP1 : va_P D cl R'.flatten H1) (hD1 : va_D (va_A Rc.flatten H.size) R'.flatten) :
    va_P D cl (R' ++ Rr).flatten H1 ∧ va_D A (R' ++ Rr).flatten := by
  rw [List.flatten_append]
  rw [q_Dm] at hD hD1
  rw [q_Dm]
  rw [q_Pm] at hP hP1
  rw [q_Pm]
  have hn : ((Rc.flatten ++ Rr.flatten).map Prod.fst).Nodup := (hp.map Prod.fst).nodup_iff.mp hD.1
  rw [List.map_append, List.nodup_append] at hn
  have hsub : ∀ q ∈ Rr.flatten, q ∈ Rs.flatten := fun q hq => hp.mem_iff.mpr (List.mem_append_right _ hq)
  have hap : ∀ q ∈ Rr.flatten, q.1 < H.size ∧ ¬ va_A Rc.flatten H.size q.1 := by
    intro q hq
    have hl := (hP q (hsub q hq)).lt
    refine ⟨hl, fun h => ?_⟩
    rcases h with ⟨k, e, h⟩ | h
    · have hm : (q.1, e) ∈ Rc.flatten := List.mem_of_getElem? h
      exact hn.2.2 q.1 (List.mem_map.mpr ⟨_, hm, rfl⟩) q.1 (List.mem_map.mpr ⟨q, hq, rfl⟩) rfl
    · omega
  refine ⟨fun q hq => ?_, ?_, fun q hq => ?_⟩
  · rcases List.mem_append.mp hq with h | h
    · exact hP1 q h
    · exact (hP q (hsub q h)).kept (hk q.1 (hap q h).1 (hap q h).2)
  · rw [List.map_append, List.nodup_append]
    refine ⟨hD1.1, hn.2.1, fun a ha b hb hab => ?_⟩
    obtain ⟨x, hx, rfl⟩ := List.mem_map.mp ha
    obtain ⟨y, hy, rfl⟩ := List.mem_map.mp hb
    have h1 := hD1.2 x hx
    rw [hab] at h1
    exact (hap y hy).2 h1
  · rcases List.mem_append.mp hq with h | h
    · exact hF _ (hD1.2 q h)
    · exact hD.2 q (hsub q h)
/-- a picture of what is never written: it goes on over later heaps, for fewer cells of ours -/
def q_St (Z : (Nat → Prop) → State → Heap → Prop) : Prop := ∀ (A A' : Nat → Prop) (s U : State) (H H' : Heap), Z A s H → s.WarmedH U.vm → (∀ q : Nat, q < H.size → ¬ A q → H'[q]? = H[q]?) → (∀ q, A' q → A q) → Z A' U H'
def q_Pre (D : va_G) (tys : List (ClassId × FieldType)) (Z : (Nat → Prop) → State → Heap → Prop) (Rc : List va_W) (sz : Nat) (U : State) : Prop :=
  U.heap.size = sz ∧ va_P D vwCl Rc.flatten U.heap ∧ va_K D vwCl tys U ∧ va_D (fun _ => True) Rc.flatten ∧ Z (va_A Rc.flatten sz) U U.heap
def q_Post (D : va_G) (Rc : List va_W) (sz : Nat) (Post : Option Value → List va_W → State → Prop) : Array Value → State → Outcome → State → Prop := fun _ st oc t =>
  (∃ (v : Option Value) (R' : List va_W), oc = .returned v ∧ Post v R' t ∧ va_P D vwCl R'.flatten t.heap ∧ va_D (va_A Rc.flatten sz) R'.flatten) ∧ va_F (va_A Rc.flatten sz) st t
/-- a contract: with the regions Rc at hand and the arguments avs, it returns, and Post says what, with which regions -/
def q_Ct (l : Launch) (D : va_G) (tys : List (ClassId × FieldType)) (Z : (Nat → Prop) → State → Heap → Prop) (y : MethodName) (ws : List Cond) (rm : Room) (mc ms : Nat) (avs : List Value) (Rc : List va_W) (Post : Option Value → List va_W → State → Prop) : Prop :=
  ∀ sz : Nat, Met l y ws rm (va_Pc avs (q_Pre D tys Z Rc sz)) (q_Post D Rc sz Post) mc ms (va_A Rc.flatten sz)
/-- a boolean's int -/
def q_b (b : Bool) : Int32 := if b then 1 else 0
theorem q_b_nar (b : Bool) : narrow .boolean (.int (q_b b)) = .int (q_b b) := by cases b <;> decide
theorem q_b0 {b : Bool} : q_b b = 0 ↔ b = false := by cases b <;> decide
theorem q_b1 {b : Bool} : q_b b = 1 ↔ b = true := by cases b <;> decide
theorem q_lt0 {a : Nat} (h : a < 2 ^ 31) : nI a < 0 ↔ False := ⟨fun z => nI_pos h z, False.elim⟩
theorem q_ge0 {a : Nat} (h : a < 2 ^ 31) : (0 : Int32) ≤ nI a ↔ True := ⟨fun _ => trivial, fun _ => nI_pos' h⟩
theorem q_eq0 {a : Nat} (h : a < 2 ^ 31) : nI a = 0 ↔ a = 0 := by rw [← nI_0]; exact nI_eq h (by omega)
theorem q_le0 {a : Nat} (h : a < 2 ^ 31) : nI a ≤ 0 ↔ a = 0 := by rw [← nI_0, nI_leI h (by omega)]; omega
theorem q_gt0 {a : Nat} (h : a < 2 ^ 31) : (0 : Int32) < nI a ↔ 0 < a := by rw [← nI_0, nI_ltI (by omega) h]
theorem q_m1 {a : Nat} (h : a < 2 ^ 31) : nI a = -1 ↔ False := by
  refine ⟨fun z => ?_, False.elim⟩
  have h1 := nI_toInt h
  rw [z] at h1
  have h2 : (-1 : Int32).toInt = -1 := by decide
  omega
theorem q_m1' {a : Nat} (h : a < 2 ^ 31) : (-1 : Int32) = nI a ↔ False := ⟨fun z => (q_m1 h).mp z.symm, False.elim⟩
section QV
variable {p : Program} {l : Launch} {e : Env} {R : Room} {s : State} {m : MethodId} {args : Array Value} {below : List Frame} {meth : Method} {c : Code} {Q : State → Prop}
variable {D : va_G} {tys : List (ClassId × FieldType)} {A : Nat → Prop} {Z : (Nat → Prop) → State → Heap → Prop} {cc : ByteArray} {nL : Nat} {Ts : List Cond} {own : String} {cells slots pc : Nat} {L : List (Nat × Value)} {st : List Value} {Rs : List va_W}
def q_V (p : Program) (l : Launch) (e : Env) (R : Room) (s : State) (m : MethodId) (args : Array Value) (below : List Frame) (meth : Method) (c : Code) (D : va_G) (A : Nat → Prop) (nL : Nat) (Q : State → Prop) (cells slots pc : Nat) (L : List (Nat × Value)) (st : List Value) (Rs : List va_W) : Prop :=
  ∀ (H : Heap) (locs : List Loc) (ls : Array Slot), va_P D vwCl Rs.flatten H → va_D A Rs.flatten → va_S A s.heap H locs → lv_has ls nL L → W p l e R s m args below meth c H locs cells slots Q (F0 m pc ls st)
/-- what holds all through a method's body -/
def q_C (p : Program) (s : State) (m : MethodId) (args : Array Value) (c : Code) (cc : ByteArray) (nL : Nat) (Ts : List Cond) (own : String) (D : va_G) (tys : List (ClassId × FieldType)) (Z : (Nat → Prop) → State → Heap → Prop) (A : Nat → Prop) : Prop :=
  p.tables.exec = Jvm.exec ∧ c.code = cc ∧ c.maxLocals = nL ∧ s.vm.findClass own = some m.cls ∧ (∀ w ∈ Ts, w.before args s = true) ∧ va_K D vwCl tys s ∧ (∀ q : Nat, s.heap.size ≤ q → A q) ∧ Z A s s.heap ∧ q_St Z
/-- what a method's body owes at its end: the room that it has, the cells that it may change, its end -/
def q_B (D : va_G) (s : State) (args : Array Value) (below : List Frame) (meth : Method) (R : Room) (A : Nat → Prop) (Q : State → Prop) (rm : Room) (mc ms : Nat) (Rc : List va_W) (Post : Option Value → List va_W → State → Prop) (ret : Option FieldType) (nm : String) : Prop :=
  R = rm ∧ A = va_A Rc.flatten s.heap.size ∧ Q = MQ below (q_Post D Rc s.heap.size Post) args s mc ms (va_A Rc.flatten s.heap.size) ∧ meth.sig.returnType = ret ∧ meth.locks = false ∧ meth.name = nm
theorem q_ct {y : MethodName} {ws ws' : List Cond} {rm : Room} {mc ms : Nat} {avs : List Value} {Rc : List va_W} {Post : Option Value → List va_W → State → Prop} {maxL : Nat} {ret : Option FieldType} (hy : plainName y.cls = true) (hw : ws = Cond.code y cc maxL ret :: ws') (hZ : q_St Z) (hav : (lg_sl avs).length ≤ maxL) (ho : y.cls = own)
    (body : ∀ (p : Program) (e : Env) (R : Room) (s : State) (m : MethodId) (args : Array Value) (below : List Frame) (meth : Method) (c : Code) (A : Nat → Prop) (Q : State → Prop), q_C p s m args c cc maxL ws own D tys Z A → q_B D s args below meth R A Q rm mc ms Rc Post ret y.name →
      q_V p l e R s m args below meth c D A maxL Q 0 0 0 (lv_args 0 avs) [] Rc) : q_Ct l D tys Z y ws rm mc ms avs Rc Post := by
  intro sz
  refine Met.ofW (cc := cc) (maxL := maxL) (ret := ret) hy hw ?_
  intro p e s m args below meth c s₁ B hml hv
  obtain ⟨rfl, hsz, hP, hK, hD0, hZ0⟩ := hv
  subst hsz
  have hts := atoms_spec (ws := ws) B.pre
  have hown : s.vm.findClass own = some m.cls := by rw [← ho]; exact findClass_of_methodNamed B.named
  have hl := lv_entry avs (n := maxL) hav
  have hnm := (name_of_methodNamed B.named B.method).1
  rw [lg_entry_eq]
  exact body p e rm s m _ below meth c _ _ ⟨B.exec, B.bytes, hml, hown, hts, hK, fun q h => Or.inr h, hZ0, hZ⟩ ⟨rfl, rfl, rfl, B.returns, B.notSynchronized, hnm⟩ s.heap [] _ hP hD0.self va_S.rf hl
theorem q_iconst (C : q_C p s m args c cc nL Ts own D tys Z A) {k : Int} {v : Int32} (d : decode cc pc = .ok (.iconst k, 1)) (n : Nat) (hn : pc + 1 = n) (hv : Int32.ofInt k = v) (kk : q_V p l e R s m args below meth c D A nL Q cells slots n L (.int v :: st) Rs) : q_V p l e R s m args below meth c D A nL Q cells slots pc L st Rs := by
  subst hn
  exact fun H locs ls hP hD hS hl => lv_iconst C.1 C.2.1 d hv (kk H locs ls hP hD hS hl)
theorem q_bipush (C : q_C p s m args c cc nL Ts own D tys Z A) {k : Int} {v : Int32} (d : decode cc pc = .ok (.bipush k, 2)) (n : Nat) (hn : pc + 2 = n) (hv : (Int8.ofInt k).toInt32 = v) (kk : q_V p l e R s m args below meth c D A nL Q cells slots n L (.int v :: st) Rs) : q_V p l e R s m args below meth c D A nL Q cells slots pc L st Rs := by
  subst hn
  exact fun H locs ls hP hD hS hl => lv_bipush C.1 C.2.1 d hv (kk H locs ls hP hD hS hl)
theorem q_sipush (C : q_C p s m args c cc nL Ts own D tys Z A) {k : Int} {v : Int32} (d : decode cc pc = .ok (.sipush k, 3)) (n : Nat) (hn : pc + 3 = n) (hv : (Int16.ofInt k).toInt32 = v) (kk : q_V p l e R s m args below meth c D A nL Q cells slots n L (.int v :: st) Rs) : q_V p l e R s m args below meth c D A nL Q cells slots pc L st Rs := by
  subst hn
  exact fun H locs ls hP hD hS hl => lv_sipush C.1 C.2.1 d hv (kk H locs ls hP hD hS hl)
theorem q_iload_n (C : q_C p s m args c cc nL Ts own D tys Z A) {i : Fin 4} {x : Int32} (d : decode cc pc = .ok (.iload_n i, 1)) (n k : Nat) (hn : pc + 1 = n) (hk : L[k]? = some ((i : Nat), .int x)) (kk : q_V p l e R s m args below meth c D A nL Q cells slots n L (.int x :: st) Rs) : q_V p l e R s m args below meth c D A nL Q cells slots pc L st Rs := by
  subst hn
  exact fun H locs ls hP hD hS hl => lv_iload_n C.1 C.2.1 d rfl (lv_at hl k hk) (kk H locs ls hP hD hS hl)
theorem q_iload (C : q_C p s m args c cc nL Ts own D tys Z A) {i : Nat} {x : Int32} (d : decode cc pc = .ok (.iload i, 2)) (n k : Nat) (hn : pc + 2 = n) (hk : L[k]? = some (i, .int x)) (kk : q_V p l e R s m args below meth c D A nL Q cells slots n L (.int x :: st) Rs) : q_V p l e R s m args below meth c D A nL Q cells slots pc L st Rs := by
  subst hn
  exact fun H locs ls hP hD hS hl => lv_iload C.1 C.2.1 d (lv_at hl k hk) (kk H locs ls hP hD hS hl)
theorem q_lload_n (C : q_C p s m args c cc nL Ts own D tys Z A) {i : Fin 4} {x : Int64} (d : decode cc pc = .ok (.lload_n i, 1)) (n k : Nat) (hn : pc + 1 = n) (hk : L[k]? = some ((i : Nat), .long x)) (kk : q_V p l e R s m args below meth c D A nL Q cells slots n L (.long x :: st) Rs) : q_V p l e R s m args below meth c D A nL Q cells slots pc L st Rs := by
  subst hn
  exact fun H locs ls hP hD hS hl => lv_lload_n C.1 C.2.1 d rfl (lv_at hl k hk) (kk H locs ls hP hD hS hl)
theorem q_lload (C : q_C p s m args c cc nL Ts own D tys Z A) {i : Nat} {x : Int64} (d : decode cc pc = .ok (.lload i, 2)) (n k : Nat) (hn : pc + 2 = n) (hk : L[k]? = some (i, .long x)) (kk : q_V p l e R s m args below meth c D A nL Q cells slots n L (.long x :: st) Rs) : q_V p l e R s m args below meth c D A nL Q cells slots pc L st Rs := by
  subst hn
  exact fun H locs ls hP hD hS hl => lv_lload C.1 C.2.1 d (lv_at hl k hk) (kk H locs ls hP hD hS hl)
theorem q_dload_n (C : q_C p s m args c cc nL Ts own D tys Z A) {i : Fin 4} {x : UInt64} (d : decode cc pc = .ok (.dload_n i, 1)) (n k : Nat) (hn : pc + 1 = n) (hk : L[k]? = some ((i : Nat), .double x)) (kk : q_V p l e R s m args below meth c D A nL Q cells slots n L (.double x :: st) Rs) : q_V p l e R s m args below meth c D A nL Q cells slots pc L st Rs := by
  subst hn
  exact fun H locs ls hP hD hS hl => lv_dload_n C.1 C.2.1 d rfl (lv_at hl k hk) (kk H locs ls hP hD hS hl)
theorem q_dload (C : q_C p s m args c cc nL Ts own D tys Z A) {i : Nat} {x : UInt64} (d : decode cc pc = .ok (.dload i, 2)) (n k : Nat) (hn : pc + 2 = n) (hk : L[k]? = some (i, .double x)) (kk : q_V p l e R s m args below meth c D A nL Q cells slots n L (.double x :: st) Rs) : q_V p l e R s m args below meth c D A nL Q cells slots pc L st Rs := by
  subst hn
  exact fun H locs ls hP hD hS hl => lv_dload C.1 C.2.1 d (lv_at hl k hk) (kk H locs ls hP hD hS hl)
theorem q_aload_n (C : q_C p s m args c cc nL Ts own D tys Z A) {i : Fin 4} {x : Nat} (d : decode cc pc = .ok (.aload_n i, 1)) (n k : Nat) (hn : pc + 1 = n) (hk : L[k]? = some ((i : Nat), .ref x)) (kk : q_V p l e R s m args below meth c D A nL Q cells slots n L (.ref x :: st) Rs) : q_V p l e R s m args below meth c D A nL Q cells slots pc L st Rs := by
  subst hn
  exact fun H locs ls hP hD hS hl => lv_aload_n C.1 C.2.1 d rfl (lv_at hl k hk) (kk H locs ls hP hD hS hl)
theorem q_aload (C : q_C p s m args c cc nL Ts own D tys Z A) {i x : Nat} (d : decode cc pc = .ok (.aload i, 2)) (n k : Nat) (hn : pc + 2 = n) (hk : L[k]? = some (i, .ref x)) (kk : q_V p l e R s m args below meth c D A nL Q cells slots n L (.ref x :: st) Rs) : q_V p l e R s m args below meth c D A nL Q cells slots pc L st Rs := by
  subst hn
  exact fun H locs ls hP hD hS hl => lv_aload C.1 C.2.1 d (lv_at hl k hk) (kk H locs ls hP hD hS hl)
theorem q_istore_n (C : q_C p s m args c cc nL Ts own D tys Z A) {i : Fin 4} {x : Int32} (d : decode cc pc = .ok (.istore_n i, 1)) (n : Nat) (hn : pc + 1 = n) (L' : List (Nat × Value)) (hi : (i : Nat) < nL) (hL : ((i : Nat), Value.int x) :: L.filter (fun q => !(q.1 == (i : Nat)) && !(q.1 + 1 == (i : Nat) && q.2.category == 2)) = L') (kk : q_V p l e R s m args below meth c D A nL Q cells slots n L' st Rs) : q_V p l e R s m args below meth c D A nL Q cells slots pc L (.int x :: st) Rs := by
  subst hn
  exact fun H locs ls hP hD hS hl => lv_istore_n C.1 C.2.1 d rfl hl hi hL (fun ls' hl' => kk H locs ls' hP hD hS hl')
theorem q_istore (C : q_C p s m args c cc nL Ts own D tys Z A) {i : Nat} {x : Int32} (d : decode cc pc = .ok (.istore i, 2)) (n : Nat) (hn : pc + 2 = n) (L' : List (Nat × Value)) (hi : i < nL) (hL : (i, Value.int x) :: L.filter (fun q => !(q.1 == i) && !(q.1 + 1 == i && q.2.category == 2)) = L') (kk : q_V p l e R s m args below meth c D A nL Q cells slots n L' st Rs) : q_V p l e R s m args below meth c D A nL Q cells slots pc L (.int x :: st) Rs := by
  subst hn
  exact fun H locs ls hP hD hS hl => lv_istore C.1 C.2.1 d hl hi hL (fun ls' hl' => kk H locs ls' hP hD hS hl')
theorem q_astore_n (C : q_C p s m args c cc nL Ts own D tys Z A) {i : Fin 4} {x : Nat} (d : decode cc pc = .ok (.astore_n i, 1)) (n : Nat) (hn : pc + 1 = n) (L' : List (Nat × Value)) (hi : (i : Nat) < nL) (hL : ((i : Nat), Value.ref x) :: L.filter (fun q => !(q.1 == (i : Nat)) && !(q.1 + 1 == (i : Nat) && q.2.category == 2)) = L') (kk : q_V p l e R s m args below meth c D A nL Q cells slots n L' st Rs) : q_V p l e R s m args below meth c D A nL Q cells slots pc L (.ref x :: st) Rs := by
  subst hn
  exact fun H locs ls hP hD hS hl => lv_astore_n C.1 C.2.1 d rfl hl hi hL (fun ls' hl' => kk H locs ls' hP hD hS hl')
theorem q_astore (C : q_C p s m args c cc nL Ts own D tys Z A) {i x : Nat} (d : decode cc pc = .ok (.astore i, 2)) (n : Nat) (hn : pc + 2 = n) (L' : List (Nat × Value)) (hi : i < nL) (hL : (i, Value.ref x) :: L.filter (fun q => !(q.1 == i) && !(q.1 + 1 == i && q.2.category == 2)) = L') (kk : q_V p l e R s m args below meth c D A nL Q cells slots n L' st Rs) : q_V p l e R s m args below meth c D A nL Q cells slots pc L (.ref x :: st) Rs := by
  subst hn
  exact fun H locs ls hP hD hS hl => lv_astore C.1 C.2.1 d hl hi hL (fun ls' hl' => kk H locs ls' hP hD hS hl')
theorem q_lstore_n (C : q_C p s m args c cc nL Ts own D tys Z A) {i : Fin 4} {x : Int64} (d : decode cc pc = .ok (.lstore_n i, 1)) (n : Nat) (hn : pc + 1 = n) (L' : List (Nat × Value)) (hi : (i : Nat) + 1 < nL) (hL : ((i : Nat), Value.long x) :: L.filter (fun q => !(q.1 == (i : Nat)) && (!(q.1 == (i : Nat) + 1) && !(q.1 + 1 == (i : Nat) && q.2.category == 2))) = L') (kk : q_V p l e R s m args below meth c D A nL Q cells slots n L' st Rs) : q_V p l e R s m args below meth c D A nL Q cells slots pc L (.long x :: st) Rs := by
  subst hn
  exact fun H locs ls hP hD hS hl => lv_lstore_n C.1 C.2.1 d rfl hl hi hL (fun ls' hl' => kk H locs ls' hP hD hS hl')
theorem q_lstore (C : q_C p s m args c cc nL Ts own D tys Z A) {i : Nat} {x : Int64} (d : decode cc pc = .ok (.lstore i, 2)) (n : Nat) (hn : pc + 2 = n) (L' : List (Nat × Value)) (hi : i + 1 < nL) (hL : (i, Value.long x) :: L.filter (fun q => !(q.1 == i) && (!(q.1 == i + 1) && !(q.1 + 1 == i && q.2.category == 2))) = L') (kk : q_V p l e R s m args below meth c D A nL Q cells slots n L' st Rs) : q_V p l e R s m args below meth c D A nL Q cells slots pc L (.long x :: st) Rs := by
  subst hn
  exact fun H locs ls hP hD hS hl => lv_lstore C.1 C.2.1 d hl hi hL (fun ls' hl' => kk H locs ls' hP hD hS hl')
theorem q_dstore_n (C : q_C p s m args c cc nL Ts own D tys Z A) {i : Fin 4} {x : UInt64} (d : decode cc pc = .ok (.dstore_n i, 1)) (n : Nat) (hn : pc + 1 = n) (L' : List (Nat × Value)) (hi : (i : Nat) + 1 < nL) (hL : ((i : Nat), Value.double x) :: L.filter (fun q => !(q.1 == (i : Nat)) && (!(q.1 == (i : Nat) + 1) && !(q.1 + 1 == (i : Nat) && q.2.category == 2))) = L') (kk : q_V p l e R s m args below meth c D A nL Q cells slots n L' st Rs) : q_V p l e R s m args below meth c D A nL Q cells slots pc L (.double x :: st) Rs := by
  subst hn
  exact fun H locs ls hP hD hS hl => lv_dstore_n C.1 C.2.1 d rfl hl hi hL (fun ls' hl' => kk H locs ls' hP hD hS hl')
theorem q_dstore (C : q_C p s m args c cc nL Ts own D tys Z A) {i : Nat} {x : UInt64} (d : decode cc pc = .ok (.dstore i, 2)) (n : Nat) (hn : pc + 2 = n) (L' : List (Nat × Value)) (hi : i + 1 < nL) (hL : (i, Value.double x) :: L.filter (fun q => !(q.1 == i) && (!(q.1 == i + 1) && !(q.1 + 1 == i && q.2.category == 2))) = L') (kk : q_V p l e R s m args below meth c D A nL Q cells slots n L' st Rs) : q_V p l e R s m args below meth c D A nL Q cells slots pc L (.double x :: st) Rs := by
  subst hn
  exact fun H locs ls hP hD hS hl => lv_dstore C.1 C.2.1 d hl hi hL (fun ls' hl' => kk H locs ls' hP hD hS hl')
theorem q_iinc (C : q_C p s m args c cc nL Ts own D tys Z A) {i : Nat} {z : Int} {x v : Int32} (d : decode cc pc = .ok (.iinc i z, 3)) (n k : Nat) (hn : pc + 3 = n) (hk : L[k]? = some (i, .int x)) (hv : x + Int32.ofInt z = v) (L' : List (Nat × Value)) (hi : i < nL) (hL : (i, Value.int v) :: L.filter (fun q => !(q.1 == i) && !(q.1 + 1 == i && q.2.category == 2)) = L') (kk : q_V p l e R s m args below meth c D A nL Q cells slots n L' st Rs) : q_V p l e R s m args below meth c D A nL Q cells slots pc L st Rs := by
  subst hn
  exact fun H locs ls hP hD hS hl => lv_iinc C.1 C.2.1 d hl hk hv hi hL (fun ls' hl' => kk H locs ls' hP hD hS hl')
end QV
