/-! CONTRACTS: a frame of one's own, another post, regions cut otherwise -/
theorem q_frame {l : Launch} {D : va_G} {tys : List (ClassId × FieldType)} {Z : (Nat → Prop) → State → Heap → Prop} (hZ : q_St Z) {y : MethodName} {ws : List Cond} {rm : Room} {mc ms : Nat} {avs : List Value} {Rc : List va_W} {Post : Option Value → List va_W → State → Prop} (Rr : List va_W) (hM : q_Ct l D tys Z y ws rm mc ms avs Rc Post) : q_Ct l D tys Z y ws rm mc ms avs (Rc ++ Rr) (fun v R t => ∃ R1, Post v R1 t ∧ R = R1 ++ Rr) := by
  intro sz p e ha hc hk s m args below hf hap hP hT
  obtain ⟨hav, hsz, hP1, hKK, hD, hZ1⟩ := hP
  have hfl : (Rc ++ Rr).flatten = Rc.flatten ++ Rr.flatten := List.flatten_append
  have hperm : (Rc ++ Rr).flatten.Perm (Rc.flatten ++ Rr.flatten) := by rw [hfl]
  have hsub : ∀ q, va_A Rc.flatten sz q → va_A (Rc ++ Rr).flatten sz q := by
    intro q h
    rcases h with ⟨k, e1, h⟩ | h
    · refine Or.inl ⟨k, e1, ?_⟩
      rw [hfl, List.getElem?_append_left (List.getElem?_eq_some_iff.mp h).1]
      exact h
    · exact Or.inr h
  have hPc : va_P D vwCl Rc.flatten s.heap := by
    rw [q_Pm] at hP1 ⊢
    exact fun q hq => hP1 q (by rw [hfl]; exact List.mem_append_left _ hq)
  have hDc : va_D (fun _ => True) Rc.flatten := by
    rw [q_Dm] at hD ⊢
    refine ⟨?_, fun _ _ => trivial⟩
    have h1 := hD.1
    rw [hfl, List.map_append] at h1
    exact (List.nodup_append.mp h1).1
  have hZc : Z (va_A Rc.flatten sz) s s.heap := hZ _ _ s s s.heap s.heap hZ1 (State.WarmedH.refl s) (fun _ _ _ => rfl) hsub
  obtain ⟨n, o, h1, h2, h3, ⟨⟨v, R', ho, hp, hP', hD'⟩, hF⟩, L, hE, hL⟩ := hM sz p e ha hc hk s m args below hf hap ⟨hav, hsz, hPc, hKK, hDc, hZc⟩ trivial
  subst hsz
  have hj := q_join (A := va_A (Rc ++ Rr).flatten s.heap.size) hP1 hD.self hperm (fun q hq hn => hF.2 q hq hn) hsub hP' hD'
  exact ⟨n, o, h1, h2, h3, ⟨⟨v, R' ++ Rr, ho, ⟨R', hp, rfl⟩, hj.1, hj.2⟩, ⟨hF.1, fun q hq hn => hF.2 q hq (fun z => hn (hsub q z))⟩⟩, L, hE, fun q hq => hsub _ (hL q hq)⟩
theorem q_post {l : Launch} {D : va_G} {tys : List (ClassId × FieldType)} {Z : (Nat → Prop) → State → Heap → Prop} {y : MethodName} {ws : List Cond} {rm : Room} {mc ms : Nat} {avs : List Value} {Rc : List va_W} {Post Post' : Option Value → List va_W → State → Prop} (h : ∀ v R t, Post v R t → ∃ R', R.flatten = R'.flatten ∧ Post' v R' t) (hM : q_Ct l D tys Z y ws rm mc ms avs Rc Post) : q_Ct l D tys Z y ws rm mc ms avs Rc Post' := by
  intro sz p e ha hc hk s m args below hf hap hP hT
  obtain ⟨n, o, h1, h2, h3, ⟨⟨v, R', ho, hp, hP', hD'⟩, hF⟩, L, hE, hL⟩ := hM sz p e ha hc hk s m args below hf hap hP hT
  obtain ⟨R2, e2, hp2⟩ := h v R' _ hp
  rw [e2] at hP' hD'
  exact ⟨n, o, h1, h2, h3, ⟨⟨v, R2, ho, hp2, hP', hD'⟩, hF⟩, L, hE, hL⟩
theorem q_recut {l : Launch} {D : va_G} {tys : List (ClassId × FieldType)} {Z : (Nat → Prop) → State → Heap → Prop} {y : MethodName} {ws : List Cond} {rm : Room} {mc ms : Nat} {avs : List Value} {Rc Rc' : List va_W} {Post : Option Value → List va_W → State → Prop} (h : Rc.flatten = Rc'.flatten) (hM : q_Ct l D tys Z y ws rm mc ms avs Rc Post) : q_Ct l D tys Z y ws rm mc ms avs Rc' Post := by
  intro sz
  have h1 := hM sz
  unfold q_Pre q_Post at h1 ⊢
  rw [h] at h1
  exact h1
section QK2
variable {p : Program} {l : Launch} {e : Env} {R : Room} {s : State} {m : MethodId} {args : Array Value} {below : List Frame} {meth : Method} {c : Code} {Q : State → Prop}
variable {D : va_G} {tys : List (ClassId × FieldType)} {A : Nat → Prop} {Z : (Nat → Prop) → State → Heap → Prop} {cc : ByteArray} {nL : Nat} {Ts : List Cond} {own : String} {cells slots pc : Nat} {L : List (Nat × Value)} {st : List Value} {Rs : List va_W}
theorem q_ldc (C : q_C p s m args c cc nL Ts own D tys Z A) {index : Nat} {v : Int32} (hconst : (Jvm.Cond.constant own index v).before args s = true) (d : decode cc pc = .ok (.ldc index, 2)) (n : Nat) (hn : pc + 2 = n) (kk : q_V p l e R s m args below meth c D A nL Q cells slots n L (.int v :: st) Rs) : q_V p l e R s m args below meth c D A nL Q cells slots pc L st Rs := by
  subst hn
  exact fun H locs ls hP hD hS hl => lv_ldc C.1 C.2.1 C.2.2.2.1 hconst d (kk H locs ls hP hD hS hl)
theorem q_ishr (C : q_C p s m args c cc nL Ts own D tys Z A) {x y v : Int32} (d : decode cc pc = .ok (.ishr, 1)) (n : Nat) (hn : pc + 1 = n) (hv : x >>> (y &&& 31) = v) (kk : q_V p l e R s m args below meth c D A nL Q cells slots n L (.int v :: st) Rs) : q_V p l e R s m args below meth c D A nL Q cells slots pc L (.int y :: .int x :: st) Rs := by
  subst hn; subst hv
  exact fun H locs ls hP hD hS hl => lv_ishr C.1 C.2.1 d (kk H locs ls hP hD hS hl)
end QK2
/-- the script lies in what is never written -/
def q_Sc (Z : (Nat → Prop) → State → Heap → Prop) (b LL : Nat) (xs : Nat → Int32) : Prop := ∀ (A : Nat → Prop) (U : State) (H : Heap), Z A U H → va_T .int b LL (fun j => .int (xs j)) A U H
theorem q_sc {p : Program} {s : State} {m : MethodId} {args : Array Value} {c : Code} {cc : ByteArray} {nL : Nat} {Ts : List Cond} {own : String} {D : va_G} {tys : List (ClassId × FieldType)} {Z : (Nat → Prop) → State → Heap → Prop} {A : Nat → Prop} {b LL : Nat} {xs : Nat → Int32} (hS : q_Sc Z b LL xs) (C : q_C p s m args c cc nL Ts own D tys Z A) : va_T .int b LL (fun j => .int (xs j)) A s s.heap := hS _ _ _ C.2.2.2.2.2.2.2.1
