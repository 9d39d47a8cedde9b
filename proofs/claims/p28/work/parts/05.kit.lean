section QX
variable {p : Program} {l : Launch} {e : Env} {R : Room} {s : State} {m : MethodId} {args : Array Value} {below : List Frame} {meth : Method} {c : Code} {Q : State → Prop}
variable {D : va_G} {tys : List (ClassId × FieldType)} {A : Nat → Prop} {Z : (Nat → Prop) → State → Heap → Prop} {cc : ByteArray} {nL : Nat} {Ts : List Cond} {own : String} {cells slots pc : Nat} {L : List (Nat × Value)} {st : List Value} {Rs : List va_W}
theorem q_iret {Rc : List va_W} {Post : Option Value → List va_W → State → Prop} {nm : String} {rm : Room} {mc ms : Nat} (C : q_C p s m args c cc nL Ts own D tys Z A) (B : q_B D s args below meth R A Q rm mc ms Rc Post (some .int) nm) {x : Int32} (d : decode cc pc = .ok (.ireturn, 1)) (hmc : cells = mc) (hms : slots = ms) (hp : ∀ t : State, s.vm.Alike t.vm → Post (some (.int x)) Rs t) : q_V p l e R s m args below meth c D A nL Q cells slots pc L [.int x] Rs := by
  obtain ⟨-, rfl, rfl, hr1, hr2, -⟩ := B
  subst hmc; subst hms
  exact fun H locs ls hP hD hS hl => W.iret (v := x) C.1 C.2.1 hr1 (fun t ht hW => ⟨⟨_, Rs, rfl, hp t hW.alike, by rw [ht]; exact hP, hD⟩, hS.F ht⟩) hS.2.2 d hr2
theorem q_zret {Rc : List va_W} {Post : Option Value → List va_W → State → Prop} {nm : String} {rm : Room} {mc ms : Nat} (C : q_C p s m args c cc nL Ts own D tys Z A) (B : q_B D s args below meth R A Q rm mc ms Rc Post (some .boolean) nm) {x : Int32} (hnr : narrow .boolean (.int x) = .int x) (d : decode cc pc = .ok (.ireturn, 1)) (hmc : cells = mc) (hms : slots = ms) (hp : ∀ t : State, s.vm.Alike t.vm → Post (some (.int x)) Rs t) : q_V p l e R s m args below meth c D A nL Q cells slots pc L [.int x] Rs := by
  obtain ⟨-, rfl, rfl, hr1, hr2, -⟩ := B
  subst hmc; subst hms
  exact fun H locs ls hP hD hS hl => W.zret (v := x) C.1 C.2.1 hr1 hnr (fun t ht hW => ⟨⟨_, Rs, rfl, hp t hW.alike, by rw [ht]; exact hP, hD⟩, hS.F ht⟩) hS.2.2 d hr2
theorem q_lret {Rc : List va_W} {Post : Option Value → List va_W → State → Prop} {nm : String} {rm : Room} {mc ms : Nat} (C : q_C p s m args c cc nL Ts own D tys Z A) (B : q_B D s args below meth R A Q rm mc ms Rc Post (some .long) nm) {x : Int64} (d : decode cc pc = .ok (.lreturn, 1)) (hmc : cells = mc) (hms : slots = ms) (hp : ∀ t : State, s.vm.Alike t.vm → Post (some (.long x)) Rs t) : q_V p l e R s m args below meth c D A nL Q cells slots pc L [.long x] Rs := by
  obtain ⟨-, rfl, rfl, hr1, hr2, -⟩ := B
  subst hmc; subst hms
  exact fun H locs ls hP hD hS hl => W.lret (v := x) C.1 C.2.1 hr1 (fun t ht hW => ⟨⟨_, Rs, rfl, hp t hW.alike, by rw [ht]; exact hP, hD⟩, hS.F ht⟩) hS.2.2 d hr2
theorem q_dret {Rc : List va_W} {Post : Option Value → List va_W → State → Prop} {nm : String} {rm : Room} {mc ms : Nat} (C : q_C p s m args c cc nL Ts own D tys Z A) (B : q_B D s args below meth R A Q rm mc ms Rc Post (some .double) nm) {x : UInt64} (d : decode cc pc = .ok (.dreturn, 1)) (hmc : cells = mc) (hms : slots = ms) (hp : ∀ t : State, s.vm.Alike t.vm → Post (some (.double x)) Rs t) : q_V p l e R s m args below meth c D A nL Q cells slots pc L [.double x] Rs := by
  obtain ⟨-, rfl, rfl, hr1, hr2, -⟩ := B
  subst hmc; subst hms
  exact fun H locs ls hP hD hS hl => W.dret (v := x) C.1 C.2.1 hr1 (fun t ht hW => ⟨⟨_, Rs, rfl, hp t hW.alike, by rw [ht]; exact hP, hD⟩, hS.F ht⟩) hS.2.2 d hr2
theorem q_vret {Rc : List va_W} {Post : Option Value → List va_W → State → Prop} {nm : String} {rm : Room} {mc ms : Nat} (C : q_C p s m args c cc nL Ts own D tys Z A) (B : q_B D s args below meth R A Q rm mc ms Rc Post (none) nm) (d : decode cc pc = .ok (.return_, 1)) (hmc : cells = mc) (hms : slots = ms) (hp : ∀ t : State, s.vm.Alike t.vm → Post none Rs t) : q_V p l e R s m args below meth c D A nL Q cells slots pc L [] Rs := by
  obtain ⟨-, rfl, rfl, hr1, hr2, -⟩ := B
  subst hmc; subst hms
  exact fun H locs ls hP hD hS hl => W.vret C.1 C.2.1 hr1 (fun t ht hW => ⟨⟨_, Rs, rfl, hp t hW.alike, by rw [ht]; exact hP, hD⟩, hS.F ht⟩) hS.2.2 d hr2
theorem q_aret {v : Value} {rt : String} {Rc : List va_W} {Post : Option Value → List va_W → State → Prop} {nm : String} {rm : Room} {mc ms : Nat} (C : q_C p s m args c cc nL Ts own D tys Z A) (B : q_B D s args below meth R A Q rm mc ms Rc Post (some (.object rt)) nm) (hv : v = .null ∨ ∃ a, v = .ref a) (d : decode cc pc = .ok (.areturn, 1)) (hmc : cells = mc) (hms : slots = ms) (hp : ∀ t : State, s.vm.Alike t.vm → Post (some v) Rs t) : q_V p l e R s m args below meth c D A nL Q cells slots pc L [v] Rs := by
  obtain ⟨-, rfl, rfl, hr1, hr2, -⟩ := B
  subst hmc; subst hms
  exact fun H locs ls hP hD hS hl => W.aret (v := v) C.1 C.2.1 hr1 (Or.inl ⟨_, rfl⟩) hv (fun t ht hW => ⟨⟨_, Rs, rfl, hp t hW.alike, by rw [ht]; exact hP, hD⟩, hS.F ht⟩) hS.2.2 d hr2
theorem q_resp {Rs' : List va_W} (h : Rs.flatten = Rs'.flatten) (kk : q_V p l e R s m args below meth c D A nL Q cells slots pc L st Rs') : q_V p l e R s m args below meth c D A nL Q cells slots pc L st Rs := by
  intro H locs ls hP hD hS hl
  rw [h] at hP hD
  exact kk H locs ls hP hD hS hl
/-- what a callee asks of its start, out of the caller's world -/
theorem q_preU (C : q_C p s m args c cc nL Ts own D tys Z A) {Rc Rr : List va_W} {avs : List Value} {H : Heap} {locs : List Loc} (hP : va_P D vwCl Rs.flatten H) (hD : va_D A Rs.flatten) (hS : va_S A s.heap H locs) (hp : Rs.flatten.Perm (Rc.flatten ++ Rr.flatten)) (hF : ∀ q, va_A Rc.flatten H.size q → A q) : PreS s H (va_Pc avs (q_Pre D tys Z Rc H.size)) avs := by
  have hPc : va_P D vwCl Rc.flatten H := by
    rw [q_Pm] at hP ⊢
    exact fun q hq => hP q (hp.mem_iff.mpr (List.mem_append_left _ hq))
  have hDc : va_D (fun _ => True) Rc.flatten := by
    rw [q_Dm] at hD ⊢
    have hn : ((Rc.flatten ++ Rr.flatten).map Prod.fst).Nodup := (hp.map Prod.fst).nodup_iff.mp hD.1
    rw [List.map_append, List.nodup_append] at hn
    exact ⟨hn.1, fun _ _ => trivial⟩
  refine ⟨fun a U g mk q => ?_, fun U hU hW => ⟨rfl, by rw [hU], by rw [hU]; exact hPc, va_K.moved hW.alike C.2.2.2.2.2.1, hDc, ?_⟩⟩
  · obtain ⟨q0, q1, qP, qK, qD, qZ⟩ := q
    exact ⟨q0, q1, qP, va_K.moved (u := U) (U := U.calling g mk a) (Vm.Alike.refl U.vm) qK, qD, C.2.2.2.2.2.2.2.2 _ _ U (U.calling g mk a) U.heap U.heap qZ (State.WarmedH.refl U) (fun _ _ _ => rfl) (fun _ h => h)⟩
  · rw [hU]
    exact C.2.2.2.2.2.2.2.2 _ _ s U s.heap H C.2.2.2.2.2.2.2.1 hW hS.2.1 hF
theorem q_freeA {Rc Rr : List va_W} {H : Heap} {locs : List Loc} (C : q_C p s m args c cc nL Ts own D tys Z A) (hD : va_D A Rs.flatten) (hS : va_S A s.heap H locs) (hp : Rs.flatten.Perm (Rc.flatten ++ Rr.flatten)) : ∀ q, va_A Rc.flatten H.size q → A q := by
  intro q h
  rcases h with ⟨k, e, h⟩ | h
  · rw [q_Dm] at hD
    exact hD.2 (q, e) (hp.mem_iff.mpr (List.mem_append_left _ (List.mem_of_getElem? h)))
  · exact C.2.2.2.2.2.2.1 q (Nat.le_trans hS.1 h)
theorem q_recv (C : q_C p s m args c cc nL Ts own D tys Z A) {H : Heap} {k ci : Nat} {w : va_W} {b : Nat} {Cn : String} {T : u_T} {N : Nat} (hP : va_P D vwCl Rs.flatten H) (hk : Rs[k]? = some w) (hj : ∃ fs : List Value, w[0]? = some (b, .inr (ci, fs))) (hc : vwCl[ci]? = some (Cn, T, N)) : ∃ cell : Cell, H[b]? = some cell ∧ cell.vm.isStatics = false ∧ s.vm.findClass Cn = some cell.cls := by
  obtain ⟨fs, hj⟩ := hj
  obtain ⟨q0, h1, -⟩ := q_flat hk hj
  exact va_recv C.2.2.2.2.2.1 hP hc h1
theorem q_core (C : q_C p s m args c cc nL Ts own D tys Z A) {Rc Rr : List va_W} {Post : Option Value → List va_W → State → Prop} {mc ms : Nat} {rest : List Value} {a : Array Value} (isC isR : List Nat) (hp : (isC ++ isR).Perm (List.range Rs.length)) (hC : isC.filterMap (fun i => Rs[i]?) = Rc) (hRr : isR.filterMap (fun i => Rs[i]?) = Rr)
    (hr : ∀ (H : Heap) (locs : List Loc) (ls : Array Slot), va_P D vwCl Rs.flatten H → va_D A Rs.flatten → va_S A s.heap H locs → lv_has ls nL L → va_Run p l e R s m args below meth c H locs cells slots mc ms (F0 m pc ls st) rest (q_Post D Rc H.size Post a) (va_A Rc.flatten H.size))
    (kk : ∀ (v : Option Value) (R' : List va_W) (t : State), s.vm.Alike t.vm → Post v R' t → q_V p l e R s m args below meth c D A nL Q (cells + mc) (slots + ms) (pc + 3) L (v.toList ++ rest) (R' ++ Rr)) : q_V p l e R s m args below meth c D A nL Q cells slots pc L st Rs := by
  intro H locs ls hP hD hS hl T hT X
  have hperm := q_perm isC isR hp hC hRr
  have hF := q_freeA C hD hS hperm
  obtain ⟨v, st₀, t, T', LL, h0, X', hL, e1, e2, ⟨⟨v', R', hv, hpo, hP1, hD1⟩, hz, hk⟩, stp⟩ := hr H locs ls hP hD hS hl T hT X
  cases hv
  rw [h0] at hz hk
  obtain ⟨hPj, hDj⟩ := q_join hP hD hperm hk hF hP1 hD1
  rw [← e1] at hPj hz
  obtain ⟨t2, a1, b1⟩ := kk v R' t (by rw [← e2]; exact X'.warmed.alike) hpo T'.heap (locs ++ LL) ls hPj hDj
    ⟨Nat.le_trans hS.1 hz, fun q h1 h2 => by rw [e1, hk q (Nat.lt_of_lt_of_le h1 hS.1) (fun z => h2 (hF q z))]; exact hS.2.1 q h1 h2, fun q hq => by
      rcases List.mem_append.mp hq with h | h
      · exact hS.2.2 q h
      · exact hF _ (hL q h)⟩ hl T' rfl X'
  exact ⟨t2, stp t2 a1, b1⟩
theorem q_callV (C : q_C p s m args c cc nL Ts own D tys Z A) {y : MethodName} {bytes : ByteArray} {maxL : Nat} {ret : Option FieldType} {ws ws' : List Cond} {rm : Room} {mc ms n index : Nat} {As rest : List Value} {Rc Rr : List va_W} {Post : Option Value → List va_W → State → Prop} {k ci b : Nat} {w : va_W} {Cn : String} {T : u_T} {N : Nat} (hk : Rs[k]? = some w) (hj : ∃ fs : List Value, w[0]? = some (b, .inr (ci, fs))) (hcl : vwCl[ci]? = some (Cn, T, N)) (hM : q_Ct l D tys Z y ws rm mc ms (.ref b :: As) Rc Post) (hT : GoodIn Ts (wsV own index Cn y ws)) (hw : ws = Cond.code y bytes maxL ret :: ws') (hrc : rm.cells = mc) (hrs : rm.slots = ms) (hd : y.cls = Cn ∧ y.cls ≠ "java/lang/invoke/MethodHandle" ∧ y.cls ≠ "java/lang/invoke/VarHandle" ∧ (parseMethodDescriptor y.desc).map (fun d => d.parameters.length) = some n) {rmC : Room} (hRC : R = rmC) (hR : rm.frames + 1 ≤ rmC.frames ∧ 8 + (maxL + 11) + rm.locals ≤ rmC.locals) (hn : As.length = n) (hst : st = As.reverse ++ .ref b :: rest) (hcat : (rest.map fun v => v.category).sum ≤ 8) (d : decode cc pc = .ok (.invokevirtual index, 3)) (hf : cells + mc ≤ rmC.cells ∧ slots + ms ≤ rmC.slots) (isC isR : List Nat) (hp : (isC ++ isR).Perm (List.range Rs.length)) (hC : isC.filterMap (fun i => Rs[i]?) = Rc) (hRr : isR.filterMap (fun i => Rs[i]?) = Rr) (np : Nat) (hnp : pc + 3 = np) (kk : ∀ (v : Option Value) (R' : List va_W) (t : State), s.vm.Alike t.vm → Post v R' t → q_V p l e R s m args below meth c D A nL Q (cells + mc) (slots + ms) np L (v.toList ++ rest) (R' ++ Rr)) : q_V p l e R s m args below meth c D A nL Q cells slots pc L st Rs := by
  subst hnp; subst hst; subst hRC
  refine q_core (a := (Value.ref b :: As).toArray) C isC isR hp hC hRr (fun H locs ls hP hD hS hl => ?_) kk
  have hperm := q_perm isC isR hp hC hRr
  have hpre := q_preU (avs := (.ref b :: As)) C hP hD hS hperm (q_freeA C hD hS hperm)
  exact va_runV ⟨C.1, C.2.1, C.2.2.1, C.2.2.2.1, C.2.2.2.2.1⟩ (hM H.size) (cwV n C.2.2.2.2.1 hT hw hrc hrs hd hR) ⟨hpre.1, q_recv C hP hk hj hcl, hpre.2⟩ rfl hn (by rw [← hl.1]) rfl (lv_room hcat) d hf
theorem q_callS (C : q_C p s m args c cc nL Ts own D tys Z A) {y : MethodName} {bytes : ByteArray} {maxL : Nat} {ret : Option FieldType} {ws ws' : List Cond} {rm : Room} {mc ms n index : Nat} {As rest : List Value} {Rc Rr : List va_W} {Post : Option Value → List va_W → State → Prop} (hM : q_Ct l D tys Z y ws rm mc ms As Rc Post) (hT : GoodIn Ts (wsS own index y ws)) (hw : ws = Cond.code y bytes maxL ret :: ws') (hrc : rm.cells = mc) (hrs : rm.slots = ms) (hd : y.cls = own ∧ y.cls ≠ "java/lang/invoke/MethodHandle" ∧ y.cls ≠ "java/lang/invoke/VarHandle" ∧ (parseMethodDescriptor y.desc).map (fun d => d.parameters.length) = some n) {rmC : Room} (hRC : R = rmC) (hR : rm.frames + 1 ≤ rmC.frames ∧ 8 + (maxL + 11) + rm.locals ≤ rmC.locals) (hn : As.length = n) (hst : st = As.reverse ++ rest) (hcat : (rest.map fun v => v.category).sum ≤ 8) (d : decode cc pc = .ok (.invokestatic index, 3)) (hf : cells + mc ≤ rmC.cells ∧ slots + ms ≤ rmC.slots) (isC isR : List Nat) (hp : (isC ++ isR).Perm (List.range Rs.length)) (hC : isC.filterMap (fun i => Rs[i]?) = Rc) (hRr : isR.filterMap (fun i => Rs[i]?) = Rr) (np : Nat) (hnp : pc + 3 = np) (kk : ∀ (v : Option Value) (R' : List va_W) (t : State), s.vm.Alike t.vm → Post v R' t → q_V p l e R s m args below meth c D A nL Q (cells + mc) (slots + ms) np L (v.toList ++ rest) (R' ++ Rr)) : q_V p l e R s m args below meth c D A nL Q cells slots pc L st Rs := by
  subst hnp; subst hst; subst hRC
  refine q_core (a := As.toArray) C isC isR hp hC hRr (fun H locs ls hP hD hS hl => ?_) kk
  have hperm := q_perm isC isR hp hC hRr
  have hpre := q_preU (avs := As) C hP hD hS hperm (q_freeA C hD hS hperm)
  exact va_runS ⟨C.1, C.2.1, C.2.2.1, C.2.2.2.1, C.2.2.2.2.1⟩ (hM H.size) (cwS n C.2.2.2.2.1 hT hw hrc hrs hd hR) hpre rfl hn (by rw [← hl.1]) rfl (lv_room hcat) d hf
theorem q_callI (C : q_C p s m args c cc nL Ts own D tys Z A) {y : MethodName} {bytes : ByteArray} {maxL : Nat} {ws ws' : List Cond} {rm : Room} {mc ms n index : Nat} {As rest : List Value} {Rc Rr : List va_W} {Post : Option Value → List va_W → State → Prop} {b : Nat} (hM : q_Ct l D tys Z y ws rm mc ms (.ref b :: As) Rc Post) (hT : GoodIn Ts ws) (hw : ws = Cond.code y bytes maxL none :: ws') (hrc : rm.cells = mc) (hrs : rm.slots = ms) (hini : (Cond.initialized y.cls).before args s = true) (hlk : (Cond.methodLink own index y).before args s = true) (him : (Cond.instanceMethod y).before args s = true) (hy1 : y.name = "<init>") (hd : y.cls ≠ "java/lang/invoke/MethodHandle" ∧ y.cls ≠ "java/lang/invoke/VarHandle" ∧ (parseMethodDescriptor y.desc).map (fun d => d.parameters.length) = some n) {rmC : Room} (hRC : R = rmC) (hR : rm.frames + 1 ≤ rmC.frames ∧ 8 + (maxL + 11) + rm.locals ≤ rmC.locals) (hn : As.length = n) (hst : st = As.reverse ++ .ref b :: rest) (hcat : (rest.map fun v => v.category).sum ≤ 8) (d : decode cc pc = .ok (.invokespecial index, 3)) (hf : cells + mc ≤ rmC.cells ∧ slots + ms ≤ rmC.slots) (isC isR : List Nat) (hp : (isC ++ isR).Perm (List.range Rs.length)) (hC : isC.filterMap (fun i => Rs[i]?) = Rc) (hRr : isR.filterMap (fun i => Rs[i]?) = Rr) (np : Nat) (hnp : pc + 3 = np) (kk : ∀ (v : Option Value) (R' : List va_W) (t : State), s.vm.Alike t.vm → Post v R' t → q_V p l e R s m args below meth c D A nL Q (cells + mc) (slots + ms) np L (v.toList ++ rest) (R' ++ Rr)) : q_V p l e R s m args below meth c D A nL Q cells slots pc L st Rs := by
  subst hnp; subst hst; subst hRC
  refine q_core (a := (Value.ref b :: As).toArray) C isC isR hp hC hRr (fun H locs ls hP hD hS hl => ?_) kk
  have hperm := q_perm isC isR hp hC hRr
  have hpre := q_preU (avs := (.ref b :: As)) C hP hD hS hperm (q_freeA C hD hS hperm)
  exact va_runI ⟨C.1, C.2.1, C.2.2.1, C.2.2.2.1, C.2.2.2.2.1⟩ (hM H.size) (cwI n C.2.2.2.2.1 hT hw hrc hrs hini hlk him hy1 hd hR) hpre rfl hn (by rw [← hl.1]) rfl (lv_room hcat) d hf
theorem q_callVN (C : q_C p s m args c cc nL Ts own D tys Z A) {y : MethodName} {bytes : ByteArray} {maxL : Nat} {ret : Option FieldType} {ws ws' : List Cond} {rm : Room} {mc ms n index : Nat} {As rest : List Value} {Rc Rr : List va_W} {Post : Option Value → List va_W → State → Prop} {host : String} {k ci b : Nat} {w : va_W} {Cn : String} {T : u_T} {N : Nat} (hk : Rs[k]? = some w) (hj : ∃ fs : List Value, w[0]? = some (b, .inr (ci, fs))) (hcl : vwCl[ci]? = some (Cn, T, N)) (hM : q_Ct l D tys Z y ws rm mc ms (.ref b :: As) Rc Post) (hT : GoodIn Ts ws) (hw : ws = Cond.code y bytes maxL ret :: ws') (hrc : rm.cells = mc) (hrs : rm.slots = ms) (hlk : va_Nw (.methodLinkNest own index y host) s) (hini : (Cond.initialized y.cls).before args s = true) (him : (Cond.instanceMethod y).before args s = true) (hse : (Cond.selects Cn y y).before args s = true) (hd : y.cls ≠ "java/lang/invoke/MethodHandle" ∧ y.cls ≠ "java/lang/invoke/VarHandle" ∧ (parseMethodDescriptor y.desc).map (fun d => d.parameters.length) = some n) {rmC : Room} (hRC : R = rmC) (hR : rm.frames + 1 ≤ rmC.frames ∧ 8 + (maxL + 11) + rm.locals ≤ rmC.locals) (hn : As.length = n) (hst : st = As.reverse ++ .ref b :: rest) (hcat : (rest.map fun v => v.category).sum ≤ 8) (d : decode cc pc = .ok (.invokevirtual index, 3)) (hf : cells + mc ≤ rmC.cells ∧ slots + ms ≤ rmC.slots) (isC isR : List Nat) (hp : (isC ++ isR).Perm (List.range Rs.length)) (hC : isC.filterMap (fun i => Rs[i]?) = Rc) (hRr : isR.filterMap (fun i => Rs[i]?) = Rr) (np : Nat) (hnp : pc + 3 = np) (kk : ∀ (v : Option Value) (R' : List va_W) (t : State), s.vm.Alike t.vm → Post v R' t → q_V p l e R s m args below meth c D A nL Q (cells + mc) (slots + ms) np L (v.toList ++ rest) (R' ++ Rr)) : q_V p l e R s m args below meth c D A nL Q cells slots pc L st Rs := by
  subst hnp; subst hst; subst hRC
  refine q_core (a := (Value.ref b :: As).toArray) C isC isR hp hC hRr (fun H locs ls hP hD hS hl => ?_) kk
  have hperm := q_perm isC isR hp hC hRr
  have hpre := q_preU (avs := (.ref b :: As)) C hP hD hS hperm (q_freeA C hD hS hperm)
  exact va_runVN ⟨C.1, C.2.1, C.2.2.1, C.2.2.2.1, C.2.2.2.2.1⟩ (hM H.size) ⟨va_cnB n C.2.2.2.2.1 hT hw hrc hrs hlk hini hd hR, him, hse⟩ ⟨hpre.1, q_recv C hP hk hj hcl, hpre.2⟩ rfl hn (by rw [← hl.1]) rfl (lv_room hcat) d hf
theorem q_callSN (C : q_C p s m args c cc nL Ts own D tys Z A) {y : MethodName} {bytes : ByteArray} {maxL : Nat} {ret : Option FieldType} {ws ws' : List Cond} {rm : Room} {mc ms n index : Nat} {As rest : List Value} {Rc Rr : List va_W} {Post : Option Value → List va_W → State → Prop} {host : String} (hM : q_Ct l D tys Z y ws rm mc ms As Rc Post) (hT : GoodIn Ts ws) (hw : ws = Cond.code y bytes maxL ret :: ws') (hrc : rm.cells = mc) (hrs : rm.slots = ms) (hlk : va_Nw (.methodLinkNest own index y host) s) (hini : (Cond.initialized y.cls).before args s = true) (hsta : (Cond.static y).before args s = true) (hd : y.cls ≠ "java/lang/invoke/MethodHandle" ∧ y.cls ≠ "java/lang/invoke/VarHandle" ∧ (parseMethodDescriptor y.desc).map (fun d => d.parameters.length) = some n) {rmC : Room} (hRC : R = rmC) (hR : rm.frames + 1 ≤ rmC.frames ∧ 8 + (maxL + 11) + rm.locals ≤ rmC.locals) (hn : As.length = n) (hst : st = As.reverse ++ rest) (hcat : (rest.map fun v => v.category).sum ≤ 8) (d : decode cc pc = .ok (.invokestatic index, 3)) (hf : cells + mc ≤ rmC.cells ∧ slots + ms ≤ rmC.slots) (isC isR : List Nat) (hp : (isC ++ isR).Perm (List.range Rs.length)) (hC : isC.filterMap (fun i => Rs[i]?) = Rc) (hRr : isR.filterMap (fun i => Rs[i]?) = Rr) (np : Nat) (hnp : pc + 3 = np) (kk : ∀ (v : Option Value) (R' : List va_W) (t : State), s.vm.Alike t.vm → Post v R' t → q_V p l e R s m args below meth c D A nL Q (cells + mc) (slots + ms) np L (v.toList ++ rest) (R' ++ Rr)) : q_V p l e R s m args below meth c D A nL Q cells slots pc L st Rs := by
  subst hnp; subst hst; subst hRC
  refine q_core (a := As.toArray) C isC isR hp hC hRr (fun H locs ls hP hD hS hl => ?_) kk
  have hperm := q_perm isC isR hp hC hRr
  have hpre := q_preU (avs := As) C hP hD hS hperm (q_freeA C hD hS hperm)
  exact va_runSN ⟨C.1, C.2.1, C.2.2.1, C.2.2.2.1, C.2.2.2.2.1⟩ (hM H.size) ⟨va_cnB n C.2.2.2.2.1 hT hw hrc hrs hlk hini hd hR, hsta, trivial⟩ hpre rfl hn (by rw [← hl.1]) rfl (lv_room hcat) d hf
theorem q_callIN (C : q_C p s m args c cc nL Ts own D tys Z A) {y : MethodName} {bytes : ByteArray} {maxL : Nat} {ws ws' : List Cond} {rm : Room} {mc ms n index : Nat} {As rest : List Value} {Rc Rr : List va_W} {Post : Option Value → List va_W → State → Prop} {host : String} {b : Nat} (hM : q_Ct l D tys Z y ws rm mc ms (.ref b :: As) Rc Post) (hT : GoodIn Ts ws) (hw : ws = Cond.code y bytes maxL none :: ws') (hrc : rm.cells = mc) (hrs : rm.slots = ms) (hlk : va_Nw (.methodLinkNest own index y host) s) (hini : (Cond.initialized y.cls).before args s = true) (hy1 : y.name = "<init>") (him : (Cond.instanceMethod y).before args s = true) (hd : y.cls ≠ "java/lang/invoke/MethodHandle" ∧ y.cls ≠ "java/lang/invoke/VarHandle" ∧ (parseMethodDescriptor y.desc).map (fun d => d.parameters.length) = some n) {rmC : Room} (hRC : R = rmC) (hR : rm.frames + 1 ≤ rmC.frames ∧ 8 + (maxL + 11) + rm.locals ≤ rmC.locals) (hn : As.length = n) (hst : st = As.reverse ++ .ref b :: rest) (hcat : (rest.map fun v => v.category).sum ≤ 8) (d : decode cc pc = .ok (.invokespecial index, 3)) (hf : cells + mc ≤ rmC.cells ∧ slots + ms ≤ rmC.slots) (isC isR : List Nat) (hp : (isC ++ isR).Perm (List.range Rs.length)) (hC : isC.filterMap (fun i => Rs[i]?) = Rc) (hRr : isR.filterMap (fun i => Rs[i]?) = Rr) (np : Nat) (hnp : pc + 3 = np) (kk : ∀ (v : Option Value) (R' : List va_W) (t : State), s.vm.Alike t.vm → Post v R' t → q_V p l e R s m args below meth c D A nL Q (cells + mc) (slots + ms) np L (v.toList ++ rest) (R' ++ Rr)) : q_V p l e R s m args below meth c D A nL Q cells slots pc L st Rs := by
  subst hnp; subst hst; subst hRC
  refine q_core (a := (Value.ref b :: As).toArray) C isC isR hp hC hRr (fun H locs ls hP hD hS hl => ?_) kk
  have hperm := q_perm isC isR hp hC hRr
  have hpre := q_preU (avs := (.ref b :: As)) C hP hD hS hperm (q_freeA C hD hS hperm)
  exact va_runIN ⟨C.1, C.2.1, C.2.2.1, C.2.2.2.1, C.2.2.2.2.1⟩ (hM H.size) ⟨va_cnB n C.2.2.2.2.1 hT hw hrc hrs hlk hini hd hR, hy1, him⟩ hpre rfl hn (by rw [← hl.1]) rfl (lv_room hcat) d hf
end QX
