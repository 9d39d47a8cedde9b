/-! What stands in the heap before: the kinds of part, their words, the table of kinds -/
def q_kn : List String := ["SET", "FIX", "BACK", "IDLE", "SWAP"]
def q_kF : List (String × String × String × List Int32) := [("SortCases$PartKind", "shortest", "I", [5, 4, 4, 5, 7]), ("SortCases$PartKind", "mostLetters", "I", [60, 0, 0, 0, 2]), ("SortCases$PartKind", "lowestNumber", "I", [0, 0, 0, 1, 0]), ("SortCases$PartKind", "highestNumber", "I", [-1, 40, -1, 99, -1])]
def q_kl : List Nat := [4, 3, 4, 4, 5]
def q_kb : List (List Int32) := [[115, 101, 116, 58], [102, 105, 120], [98, 97, 99, 107], [105, 100, 108, 101], [115, 119, 97, 112, 58]]
def q_Kc (ad aw av : Nat → Nat) (tK : Nat) (A : Nat → Prop) (U : State) (H : Heap) : Prop :=
  va_En "SortCases$PartKind" "LSortCases$PartKind;" q_kn q_kF ad A U H ∧ va_Ef 5 "SortCases$PartKind" "word" "Ljava/lang/String;" (fun i => .ref (aw i)) ad A U H ∧ vk_S 5 q_kl q_kb aw av A U H ∧ (va_Z "SortCases" "PART_KINDS" "[LSortCases$PartKind;" (.ref tK) A U H ∧ va_T (.object "SortCases$PartKind") tK 5 (fun j => .ref (ad j)) A U H) ∧ va_Z "java/lang/String" "COMPACT_STRINGS" "Z" (.int 1) A U H ∧ va_Zq "jdk/internal/util/Preconditions" "SIOOBE_FORMATTER" "Ljava/util/function/BiFunction;" A U H
def q_Ks (Z : (Nat → Prop) → State → Heap → Prop) (ad aw av : Nat → Nat) (tK : Nat) : Prop := ∀ (A : Nat → Prop) (U : State) (H : Heap), Z A U H → q_Kc ad aw av tK A U H
section QK
variable {p : Program} {l : Launch} {e : Env} {R : Room} {s : State} {m : MethodId} {args : Array Value} {below : List Frame} {meth : Method} {c : Code} {Q : State → Prop}
variable {D : va_G} {tys : List (ClassId × FieldType)} {A : Nat → Prop} {Z : (Nat → Prop) → State → Heap → Prop} {cc : ByteArray} {nL : Nat} {Ts : List Cond} {own : String} {cells slots pc : Nat} {L : List (Nat × Value)} {st : List Value} {Rs : List va_W}
variable {ad aw av : Nat → Nat} {tK : Nat}
theorem q_kc (hK : q_Ks Z ad aw av tK) (C : q_C p s m args c cc nL Ts own D tys Z A) : q_Kc ad aw av tK A s s.heap := hK _ _ _ C.2.2.2.2.2.2.2.1
theorem q_gets (C : q_C p s m args c cc nL Ts own D tys Z A) {Cn n d ref : String} {v : Value} {index : Nat} (hZ : va_Z Cn n d v A s s.heap) (hlink : (Cond.fieldLink own index ref n d).before args s = true) (hsame : ∀ x, s.fieldFound? Cn n d = some x → s.fieldFound? ref n d = some x) (dd : decode cc pc = .ok (.getstatic index, 3)) (np : Nat) (hnp : pc + 3 = np) (kk : q_V p l e R s m args below meth c D A nL Q cells slots np L (v :: st) Rs) : q_V p l e R s m args below meth c D A nL Q cells slots pc L st Rs := by
  subst hnp
  exact fun H locs ls hP hD hS hl => va_gets C.1 C.2.1 hZ hS C.2.2.2.1 hlink hsame dd (kk H locs ls hP hD hS hl)
theorem q_getsN (C : q_C p s m args c cc nL Ts own D tys Z A) {Cn n d ref host : String} {v : Value} {index : Nat} (hZ : va_Z Cn n d v A s s.heap) (hlink : (Cond.fieldLinkNest own index ref n d host).before args s = true) (hsame : ∀ x, s.fieldFound? Cn n d = some x → s.fieldFound? ref n d = some x) (dd : decode cc pc = .ok (.getstatic index, 3)) (np : Nat) (hnp : pc + 3 = np) (kk : q_V p l e R s m args below meth c D A nL Q cells slots np L (v :: st) Rs) : q_V p l e R s m args below meth c D A nL Q cells slots pc L st Rs := by
  subst hnp
  exact fun H locs ls hP hD hS hl => va_getsN C.1 C.2.1 hZ hS C.2.2.2.1 hlink hsame dd (kk H locs ls hP hD hS hl)
/-- a field of an object that stood before -/
theorem q_geto (C : q_C p s m args c cc nL Ts own D tys Z A) {o n d ref : String} {index q : Nat} {v : Value} (hE : va_OF o n d v q A s s.heap) (hlink : (Cond.fieldLink own index ref n d).before args s = true) (hsame : ∀ x, s.fieldFound? o n d = some x → s.fieldFound? ref n d = some x) (dd : decode cc pc = .ok (.getfield index, 3)) (np : Nat) (hnp : pc + 3 = np) (kk : q_V p l e R s m args below meth c D A nL Q cells slots np L (v :: st) Rs) : q_V p l e R s m args below meth c D A nL Q cells slots pc L (.ref q :: st) Rs := by
  subst hnp
  exact fun H locs ls hP hD hS hl => vk_getf C.1 C.2.1 hE hS C.2.2.2.1 hlink hsame dd (kk H locs ls hP hD hS hl)
theorem q_getoN (C : q_C p s m args c cc nL Ts own D tys Z A) {o n d ref host : String} {index q : Nat} {v : Value} (hE : va_OF o n d v q A s s.heap) (hlink : (Cond.fieldLinkNest own index ref n d host).before args s = true) (hsame : ∀ x, s.fieldFound? o n d = some x → s.fieldFound? ref n d = some x) (dd : decode cc pc = .ok (.getfield index, 3)) (np : Nat) (hnp : pc + 3 = np) (kk : q_V p l e R s m args below meth c D A nL Q cells slots np L (v :: st) Rs) : q_V p l e R s m args below meth c D A nL Q cells slots pc L (.ref q :: st) Rs := by
  subst hnp
  intro H locs ls hP hD hS hl
  obtain ⟨cf, k, fi, f, cell, h1, h2, h3, h4, h5, h6⟩ := hE.kept hS.2.1
  exact va_Wgetf C.1 C.2.1 C.2.2.2.1 hlink (hsame _ h1) h2 h3 h4 (v := v) h5 rfl rfl dd (kk H locs ls hP hD hS hl)
theorem q_clq {q N : Nat} (hq : q < N) (hN : N < 2 ^ 31) : (nI q).toNatClampNeg = q := nI_clamp (Nat.lt_trans hq hN)
/-- out of arrays that stood before -/
theorem q_tq (C : q_C p s m args c cc nL Ts own D tys Z A) {t N : Nat} {f : Nat → Value} {Cn : String} (hT : va_T (.object Cn) t N f A s s.heap) {i : Int32} (q : Nat) (hi : i = nI q) (hq : q < N) (hN : N < 2 ^ 31) {v : Value} (hv : f q = v) (dd : decode cc pc = .ok (.aaload, 1)) (np : Nat) (hnp : pc + 1 = np) (kk : q_V p l e R s m args below meth c D A nL Q cells slots np L (v :: st) Rs) : q_V p l e R s m args below meth c D A nL Q cells slots pc L (.int i :: .ref t :: st) Rs := by
  subst hnp; subst hi
  exact fun H locs ls hP hD hS hl => vb_tq C.1 C.2.1 hT hS (vp_in_nI hq hN) (by rw [q_clq hq hN]; exact hv) dd (kk H locs ls hP hD hS hl)
theorem q_tb (C : q_C p s m args c cc nL Ts own D tys Z A) {t N : Nat} {f : Nat → Value} (hT : va_T .byte t N f A s s.heap) {i : Int32} (q : Nat) (hi : i = nI q) (hq : q < N) (hN : N < 2 ^ 31) {v : Value} (hv : f q = v) (dd : decode cc pc = .ok (.baload, 1)) (np : Nat) (hnp : pc + 1 = np) (kk : q_V p l e R s m args below meth c D A nL Q cells slots np L (v :: st) Rs) : q_V p l e R s m args below meth c D A nL Q cells slots pc L (.int i :: .ref t :: st) Rs := by
  subst hnp; subst hi
  exact fun H locs ls hP hD hS hl => va_tb C.1 C.2.1 hT hS (vp_in_nI hq hN) (by rw [q_clq hq hN]; exact hv) dd (kk H locs ls hP hD hS hl)
theorem q_tlen (C : q_C p s m args c cc nL Ts own D tys Z A) {ty : FieldType} {t N : Nat} {f : Nat → Value} (hT : va_T ty t N f A s s.heap) {v : Int32} (hv : Int32.ofNat N = v) (dd : decode cc pc = .ok (.arraylength, 1)) (np : Nat) (hnp : pc + 1 = np) (kk : q_V p l e R s m args below meth c D A nL Q cells slots np L (.int v :: st) Rs) : q_V p l e R s m args below meth c D A nL Q cells slots pc L (.ref t :: st) Rs := by
  subst hnp
  exact fun H locs ls hP hD hS hl => va_tlen C.1 C.2.1 hT hS hv dd (kk H locs ls hP hD hS hl)
theorem q_ishr (C : q_C p s m args c cc nL Ts own D tys Z A) {x y v : Int32} (d : decode cc pc = .ok (.ishr, 1)) (n : Nat) (hn : pc + 1 = n) (hv : x >>> (y &&& 31) = v) (kk : q_V p l e R s m args below meth c D A nL Q cells slots n L (.int v :: st) Rs) : q_V p l e R s m args below meth c D A nL Q cells slots pc L (.int y :: .int x :: st) Rs := by
  subst hn; subst hv
  exact fun H locs ls hP hD hS hl => lv_ishr C.1 C.2.1 d (kk H locs ls hP hD hS hl)
theorem q_i2c (C : q_C p s m args c cc nL Ts own D tys Z A) {x v : Int32} (d : decode cc pc = .ok (.i2c, 1)) (n : Nat) (hn : pc + 1 = n) (hv : (x.toUInt32 % 65536).toInt32 = v) (kk : q_V p l e R s m args below meth c D A nL Q cells slots n L (.int v :: st) Rs) : q_V p l e R s m args below meth c D A nL Q cells slots pc L (.int x :: st) Rs := by
  subst hn
  exact fun H locs ls hP hD hS hl => lv_i2c C.1 C.2.1 d hv (kk H locs ls hP hD hS hl)
theorem q_acmp_ner (C : q_C p s m args c cc nL Ts own D tys Z A) {x y : Nat} {off : Int} (d : decode cc pc = .ok (.if_acmp .ne off, 3)) (n tgt : Nat) (hn : pc + 3 = n) (ht : (pc : Int) + off = (tgt : Int)) (kt : ¬ x = y → q_V p l e R s m args below meth c D A nL Q cells slots tgt L st Rs) (kf : x = y → q_V p l e R s m args below meth c D A nL Q cells slots n L st Rs) : q_V p l e R s m args below meth c D A nL Q cells slots pc L (.ref y :: .ref x :: st) Rs := by
  subst hn
  exact fun H locs ls hP hD hS hl => lv_acmp_ne (rx := some x) (ry := some y) C.1 C.2.1 d ht (fun h => kt (fun e => h (by rw [e])) H locs ls hP hD hS hl) (fun h => kf (by cases h; rfl) H locs ls hP hD hS hl)
theorem q_mmax (C : q_C p s m args c cc nL Ts own D tys Z A) {index : Nat} (hlink : (Cond.methodLink own index Lib.Math.max.name).before args s = true) (hstat : (Cond.static Lib.Math.max.name).before args s = true) (hini : (Cond.initialized "java/lang/Math").before args s = true) (hcode : (Cond.code Lib.Math.max.name Lib.Math.max.code 2 (some .int)).before args s = true) {rmC : Room} (hRC : R = rmC) (hf : 1 ≤ rmC.frames) (hlo : (st.map fun v => v.category).sum + 13 ≤ rmC.locals) (hc : cells ≤ rmC.cells) (hs : slots ≤ rmC.slots) {x y v : Int32} (d : decode cc pc = .ok (.invokestatic index, 3)) (np : Nat) (hnp : pc + 3 = np) (hv : (if x < y then y else x) = v)
    (kk : q_V p l e R s m args below meth c D A nL Q cells slots np L (.int v :: st) Rs) : q_V p l e R s m args below meth c D A nL Q cells slots pc L (.int y :: .int x :: st) Rs := by
  subst hnp; subst hRC; subst hv
  exact fun H locs ls hP hD hS hl => va_mmax C.1 C.2.1 (by rw [hl.1]; exact C.2.2.1) C.2.2.2.1 hlink hstat hini hcode hf hlo hc hs d (kk H locs ls hP hD hS hl)
/-- a call on an object that stood before -/
theorem q_callVA (C : q_C p s m args c cc nL Ts own D tys Z A) {y : MethodName} {bytes : ByteArray} {maxL : Nat} {ret : Option FieldType} {ws ws' : List Cond} {rm : Room} {mc ms n index : Nat} {As rest : List Value} {Rc Rr : List va_W} {Post : Option Value → List va_W → State → Prop} {b : Nat} {Cn : String} (hO : va_O Cn b A s s.heap) (hM : q_Ct l D tys Z y ws rm mc ms (.ref b :: As) Rc Post) (hT : GoodIn Ts (wsV own index Cn y ws)) (hw : ws = Cond.code y bytes maxL ret :: ws') (hrc : rm.cells = mc) (hrs : rm.slots = ms) (hd : y.cls = Cn ∧ y.cls ≠ "java/lang/invoke/MethodHandle" ∧ y.cls ≠ "java/lang/invoke/VarHandle" ∧ (parseMethodDescriptor y.desc).map (fun d => d.parameters.length) = some n) {rmC : Room} (hRC : R = rmC) (hR : rm.frames + 1 ≤ rmC.frames ∧ 8 + (maxL + 11) + rm.locals ≤ rmC.locals) (hn : As.length = n) (hst : st = As.reverse ++ .ref b :: rest) (hcat : (rest.map fun v => v.category).sum ≤ 8) (d : decode cc pc = .ok (.invokevirtual index, 3)) (hf : cells + mc ≤ rmC.cells ∧ slots + ms ≤ rmC.slots) (isC isR : List Nat) (hp : (isC ++ isR).Perm (List.range Rs.length)) (hC : isC.filterMap (fun i => Rs[i]?) = Rc) (hRr : isR.filterMap (fun i => Rs[i]?) = Rr) (np : Nat) (hnp : pc + 3 = np) (kk : ∀ (v : Option Value) (R' : List va_W) (t : State), s.vm.Alike t.vm → Post v R' t → q_V p l e R s m args below meth c D A nL Q (cells + mc) (slots + ms) np L (v.toList ++ rest) (R' ++ Rr)) : q_V p l e R s m args below meth c D A nL Q cells slots pc L st Rs := by
  subst hnp; subst hst; subst hRC
  refine q_core (a := (Value.ref b :: As).toArray) C isC isR hp hC hRr (fun H locs ls hP hD hS hl => ?_) kk
  have hperm := q_perm isC isR hp hC hRr
  have hpre := q_preU (avs := (.ref b :: As)) C hP hD hS hperm (q_freeA C hD hS hperm)
  have hrv : ∃ cell : Cell, H[b]? = some cell ∧ cell.vm.isStatics = false ∧ s.vm.findClass Cn = some cell.cls := by
    obtain ⟨cell, h1, h2, h3, -⟩ := hO.kept hS.2.1
    exact ⟨cell, h1, h2, h3⟩
  exact va_runV ⟨C.1, C.2.1, C.2.2.1, C.2.2.2.1, C.2.2.2.2.1⟩ (hM H.size) (cwV n C.2.2.2.2.1 hT hw hrc hrs hd hR) ⟨hpre.1, hrv, hpre.2⟩ rfl hn (by rw [← hl.1]) rfl (lv_room hcat) d hf
/-- a static method of another class -/
theorem q_callSX (C : q_C p s m args c cc nL Ts own D tys Z A) {y : MethodName} {bytes : ByteArray} {maxL : Nat} {ret : Option FieldType} {ws ws' : List Cond} {rm : Room} {mc ms n index : Nat} {As rest : List Value} {Rc Rr : List va_W} {Post : Option Value → List va_W → State → Prop} (hM : q_Ct l D tys Z y ws rm mc ms As Rc Post) (hT : GoodIn Ts (va_wsS own index y ws)) (hw : ws = Cond.code y bytes maxL ret :: ws') (hrc : rm.cells = mc) (hrs : rm.slots = ms) (hd : y.cls ≠ "java/lang/invoke/MethodHandle" ∧ y.cls ≠ "java/lang/invoke/VarHandle" ∧ (parseMethodDescriptor y.desc).map (fun d => d.parameters.length) = some n) {rmC : Room} (hRC : R = rmC) (hR : rm.frames + 1 ≤ rmC.frames ∧ 8 + (maxL + 11) + rm.locals ≤ rmC.locals) (hn : As.length = n) (hst : st = As.reverse ++ rest) (hcat : (rest.map fun v => v.category).sum ≤ 8) (d : decode cc pc = .ok (.invokestatic index, 3)) (hf : cells + mc ≤ rmC.cells ∧ slots + ms ≤ rmC.slots) (isC isR : List Nat) (hp : (isC ++ isR).Perm (List.range Rs.length)) (hC : isC.filterMap (fun i => Rs[i]?) = Rc) (hRr : isR.filterMap (fun i => Rs[i]?) = Rr) (np : Nat) (hnp : pc + 3 = np) (kk : ∀ (v : Option Value) (R' : List va_W) (t : State), s.vm.Alike t.vm → Post v R' t → q_V p l e R s m args below meth c D A nL Q (cells + mc) (slots + ms) np L (v.toList ++ rest) (R' ++ Rr)) : q_V p l e R s m args below meth c D A nL Q cells slots pc L st Rs := by
  subst hnp; subst hst; subst hRC
  refine q_core (a := As.toArray) C isC isR hp hC hRr (fun H locs ls hP hD hS hl => ?_) kk
  have hperm := q_perm isC isR hp hC hRr
  have hpre := q_preU (avs := As) C hP hD hS hperm (q_freeA C hD hS hperm)
  exact va_runS ⟨C.1, C.2.1, C.2.2.1, C.2.2.2.1, C.2.2.2.2.1⟩ (hM H.size) (va_cwS n C.2.2.2.2.1 hT hw hrc hrs hd hR) hpre rfl hn (by rw [← hl.1]) rfl (lv_room hcat) d hf
theorem q_nret {Rc : List va_W} {Post : Option Value → List va_W → State → Prop} {nm : String} {rm : Room} {mc ms : Nat} {ty : FieldType} (C : q_C p s m args c cc nL Ts own D tys Z A) (B : q_B D s args below meth R A Q rm mc ms Rc Post (some ty) nm) {x : Int32} (hnr : narrow ty (.int x) = .int x) (d : decode cc pc = .ok (.ireturn, 1)) (hmc : cells = mc) (hms : slots = ms) (hp : ∀ t : State, s.vm.Alike t.vm → Post (some (.int x)) Rs t) : q_V p l e R s m args below meth c D A nL Q cells slots pc L [.int x] Rs := by
  obtain ⟨-, rfl, rfl, hr1, hr2, -⟩ := B
  subst hmc; subst hms
  exact fun H locs ls hP hD hS hl => W.zret (v := x) C.1 C.2.1 hr1 hnr (fun t ht hW => ⟨⟨_, Rs, rfl, hp t hW.alike, by rw [ht]; exact hP, hD⟩, hS.F ht⟩) hS.2.2 d hr2
end QK
/-! the numbers of a kind -/
def k_ml : Nat → Nat
  | 1 => 60
  | 5 => 2
  | _ => 0
def k_klo : Nat → Nat
  | 4 => 1
  | _ => 0
def k_khi : Nat → Int32
  | 2 => nI 40
  | 4 => nI 99
  | _ => -1
theorem q_5 {P : Nat → Prop} (h0 : P 0) (h1 : P 1) (h2 : P 2) (h3 : P 3) (h4 : P 4) : ∀ i, i < 5 → P i := by
  intro i hi
  obtain rfl | rfl | rfl | rfl | rfl : i = 0 ∨ i = 1 ∨ i = 2 ∨ i = 3 ∨ i = 4 := by omega
  all_goals assumption
section QKf
variable {ad aw av : Nat → Nat} {tK : Nat} {A : Nat → Prop} {U : State} {H : Heap}
theorem q_ksho (h : q_Kc ad aw av tK A U H) {i : Nat} (hi : i < 5) : va_OF "SortCases$PartKind" "shortest" "I" (.int (nI (k_sho (i + 1)))) (ad i) A U H := by
  have h1 := (h.1.1 i hi).2.2 ("SortCases$PartKind", "shortest", "I", [5, 4, 4, 5, 7]) (by decide)
  rw [show nI (k_sho (i + 1)) = ([5, 4, 4, 5, 7] : List Int32).getD i 0 from q_5 (P := fun i => nI (k_sho (i + 1)) = ([5, 4, 4, 5, 7] : List Int32).getD i 0) (by decide) (by decide) (by decide) (by decide) (by decide) i hi]
  exact h1
theorem q_kml (h : q_Kc ad aw av tK A U H) {i : Nat} (hi : i < 5) : va_OF "SortCases$PartKind" "mostLetters" "I" (.int (nI (k_ml (i + 1)))) (ad i) A U H := by
  have h1 := (h.1.1 i hi).2.2 ("SortCases$PartKind", "mostLetters", "I", [60, 0, 0, 0, 2]) (by decide)
  rw [show nI (k_ml (i + 1)) = ([60, 0, 0, 0, 2] : List Int32).getD i 0 from q_5 (P := fun i => nI (k_ml (i + 1)) = ([60, 0, 0, 0, 2] : List Int32).getD i 0) (by decide) (by decide) (by decide) (by decide) (by decide) i hi]
  exact h1
theorem q_klo (h : q_Kc ad aw av tK A U H) {i : Nat} (hi : i < 5) : va_OF "SortCases$PartKind" "lowestNumber" "I" (.int (nI (k_klo (i + 1)))) (ad i) A U H := by
  have h1 := (h.1.1 i hi).2.2 ("SortCases$PartKind", "lowestNumber", "I", [0, 0, 0, 1, 0]) (by decide)
  rw [show nI (k_klo (i + 1)) = ([0, 0, 0, 1, 0] : List Int32).getD i 0 from q_5 (P := fun i => nI (k_klo (i + 1)) = ([0, 0, 0, 1, 0] : List Int32).getD i 0) (by decide) (by decide) (by decide) (by decide) (by decide) i hi]
  exact h1
theorem q_khi (h : q_Kc ad aw av tK A U H) {i : Nat} (hi : i < 5) : va_OF "SortCases$PartKind" "highestNumber" "I" (.int (k_khi (i + 1))) (ad i) A U H := by
  have h1 := (h.1.1 i hi).2.2 ("SortCases$PartKind", "highestNumber", "I", [-1, 40, -1, 99, -1]) (by decide)
  rw [show k_khi (i + 1) = ([-1, 40, -1, 99, -1] : List Int32).getD i 0 from q_5 (P := fun i => k_khi (i + 1) = ([-1, 40, -1, 99, -1] : List Int32).getD i 0) (by decide) (by decide) (by decide) (by decide) (by decide) i hi]
  exact h1
theorem q_kwd (h : q_Kc ad aw av tK A U H) {i : Nat} (hi : i < 5) : va_OF "SortCases$PartKind" "word" "Ljava/lang/String;" (.ref (aw i)) (ad i) A U H := h.2.1 i hi
theorem q_kst (h : q_Kc ad aw av tK A U H) {i : Nat} (hi : i < 5) : va_Z "SortCases$PartKind" (q_kn.getD i "") "LSortCases$PartKind;" (.ref (ad i)) A U H := (h.1.1 i hi).1
theorem q_kne (h : q_Kc ad aw av tK A U H) {i j : Nat} (hi : i < 5) (hj : j < 5) : ad i = ad j ↔ i = j := ⟨fun e => h.1.2 i j hi hj e, fun e => by rw [e]⟩
theorem q_kco (h : q_Kc ad aw av tK A U H) {i : Nat} (hi : i < 5) : va_OF "java/lang/String" "coder" "B" (.int (nI 0)) (aw i) A U H := by
  rw [nI_0]
  exact (h.2.2.1.1 i hi).2.1
theorem q_kva (h : q_Kc ad aw av tK A U H) {i : Nat} (hi : i < 5) : va_OF "java/lang/String" "value" "[B" (.ref (av i)) (aw i) A U H := (h.2.2.1.1 i hi).2.2.1
theorem q_kby (h : q_Kc ad aw av tK A U H) {i : Nat} (hi : i < 5) : va_T .byte (av i) (q_kl.getD i 0) (fun j => .int ((q_kb.getD i []).getD j 0)) A U H := (h.2.2.1.1 i hi).2.2.2
theorem q_kwo (h : q_Kc ad aw av tK A U H) {i : Nat} (hi : i < 5) : va_O "java/lang/String" (aw i) A U H := (h.2.2.1.1 i hi).1
theorem q_kll {i : Nat} (hi : i < 5) : q_kl.getD i 0 = (k_wo (i + 1)).length := q_5 (P := fun i => q_kl.getD i 0 = (k_wo (i + 1)).length) rfl rfl rfl rfl rfl i hi
theorem q_kL5 {i : Nat} (hi : i < 5) : (k_wo (i + 1)).length ≤ 5 ∧ 3 ≤ (k_wo (i + 1)).length := q_5 (P := fun i => (k_wo (i + 1)).length ≤ 5 ∧ 3 ≤ (k_wo (i + 1)).length) (by decide) (by decide) (by decide) (by decide) (by decide) i hi
theorem q_kco1 (h : q_Kc ad aw av tK A U H) : va_Z "java/lang/String" "COMPACT_STRINGS" "Z" (.int (nI 1)) A U H := by
  rw [show nI 1 = 1 by decide]
  exact h.2.2.2.2.1
theorem q_kfm (h : q_Kc ad aw av tK A U H) : va_Z "jdk/internal/util/Preconditions" "SIOOBE_FORMATTER" "Ljava/util/function/BiFunction;" .null A U H ∨ ∃ t : Nat, va_Z "jdk/internal/util/Preconditions" "SIOOBE_FORMATTER" "Ljava/util/function/BiFunction;" (.ref t) A U H := h.2.2.2.2.2
/-- a character of a kind's word -/
def k_wc1 (i j : Nat) : Nat := (k_wo (i + 1)).getD j 0
theorem q_kch : ∀ i, i < 5 → ∀ j, j < (k_wo (i + 1)).length → ((((q_kb.getD i []).getD j 0) &&& nI 255).toUInt32 % 65536).toInt32 = nI (k_wc1 i j) ∧ narrow .char (.int (nI (k_wc1 i j))) = .int (nI (k_wc1 i j)) := by
  intro i hi
  obtain rfl | rfl | rfl | rfl | rfl : i = 0 ∨ i = 1 ∨ i = 2 ∨ i = 3 ∨ i = 4 := by omega
  all_goals (intro j hj; revert j; decide)
theorem k_wc1_33 : ∀ i, i < 5 → ∀ j, j < (k_wo (i + 1)).length → 33 ≤ k_wc1 i j ∧ k_wc1 i j ≤ 126 ∧ k_wc1 i j ≠ 59 := by
  intro i hi
  obtain rfl | rfl | rfl | rfl | rfl : i = 0 ∨ i = 1 ∨ i = 2 ∨ i = 3 ∨ i = 4 := by omega
  all_goals (intro j hj; revert j; decide)
end QKf
