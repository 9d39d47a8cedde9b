/-! Arrays of references -/
section QW4
variable {p : Program} {l : Launch} {e : Env} {R : Room} {s : State} {m : MethodId} {args : Array Value} {below : List Frame} {meth : Method} {c : Code} {Q : State → Prop}
variable {D : va_G} {tys : List (ClassId × FieldType)} {A : Nat → Prop} {Z : (Nat → Prop) → State → Heap → Prop} {cc : ByteArray} {nL : Nat} {Ts : List Cond} {own : String} {cells slots pc : Nat} {L : List (Nat × Value)} {st : List Value} {Rs : List va_W}
theorem q_RAo {cA cI : ClassId} {C : String} (h1 : va_RA s cA (.object C)) (h2 : va_RA s cI (.object C)) : cA = cI := by
  obtain ⟨_, _, _, _, _, e1⟩ := h1
  obtain ⟨_, _, _, _, _, e2⟩ := h2
  rw [e1] at e2
  cases e2
  rfl
theorem q_newq (Cx : q_C p s m args c cc nL Ts own D tys Z A) {cI : ClassId} {C : String} {t0 index : Nat} (hI : tys[t0]? = some (cI, .object C)) (hcl : (Cond.classLink own index C).before args s = true) (hov : va_AO C s) {rmC : Room} (hRC : R = rmC) {n : Int32} {N : Nat} (d : decode cc pc = .ok (.anewarray index, 3)) (np : Nat) (hnp : pc + 3 = np) (hn : ¬ n < 0) (hN : n.toNatClampNeg = N) (hb : N * 4 ≤ 536870912) (hc : cells + 1 ≤ rmC.cells) (hs : slots + N ≤ rmC.slots)
    (kk : ∀ q : Nat, q_V p l e R s m args below meth c D A nL Q (cells + 1) (slots + N) np L (.ref q :: st) (Rs ++ [[(q, .inl (cI, N, .inr (.inr (.inr (.inr (fun _ => none))))))]])) : q_V p l e R s m args below meth c D A nL Q cells slots pc L (.int n :: st) Rs := by
  subst hnp; subst hRC
  refine fun H locs ls hP hD hS hl => va_newq Cx.1 Cx.2.1 Cx.2.2.2.1 hcl hov Cx.2.2.2.2.2.1 hP hD hS Cx.2.2.2.2.2.2.1 hn hN hb hc hs d (fun q cA H1 hK1 hP1 hD1 hS1 => ?_)
  have h1 := (hK1.2 tys.length (cA, .object C) (by rw [List.getElem?_append_right (Nat.le_refl _), Nat.sub_self]; rfl)).2
  have h2 := (Cx.2.2.2.2.2.1.2 t0 (cI, .object C) hI).2
  obtain rfl := q_RAo h1 h2
  exact kk q H1 locs ls (by rw [q_flat1]; exact hP1) (by rw [q_flat1]; exact hD1) hS1 hl
theorem q_astq (Cx : q_C p s m args c cc nL Ts own D tys Z A) {k j k2 j2 t0 ci : Nat} {w w2 : va_W} {a v N : Nat} {cA : ClassId} {r : vw_C} {vs : List Value} {f : Nat → Option Nat} {i : Int32} (d : decode cc pc = .ok (.aastore, 1)) (n : Nat) (hn : pc + 1 = n) (hk : Rs[k]? = some w) (hj : w[j]? = some (a, .inl (cA, N, .inr (.inr (.inr (.inr f)))))) (ht : tys[t0]? = some (cA, .object r.1)) (hk2 : Rs[k2]? = some w2) (hj2 : w2[j2]? = some (v, .inr (ci, vs))) (hc : vwCl[ci]? = some r) (q : Nat) (hi : i = nI q) (hq : q < N) (hN : N < 2 ^ 31) (Rs' : List va_W) (hR : Rs.set k (w.set j (a, .inl (cA, N, .inr (.inr (.inr (.inr (va_up f q (some v)))))))) = Rs')
    (kk : q_V p l e R s m args below meth c D A nL Q cells slots n L st Rs') : q_V p l e R s m args below meth c D A nL Q cells slots pc L (.ref v :: .int i :: .ref a :: st) Rs := by
  subst hn; subst hi; subst hR
  obtain ⟨q0, h1, h2⟩ := q_flat hk hj
  obtain ⟨q1, h3, -⟩ := q_flat hk2 hj2
  refine fun H locs ls hP hD hS hl => va_astq Cx.1 Cx.2.1 Cx.2.2.2.2.2.1 hP hD hS q0 t0 q1 ci h1 ht h3 hc (vp_in_nI hq hN) d (fun H1 locs1 hP1 hD1 hS1 => ?_)
  rw [nI_clamp (Nat.lt_trans hq hN)] at hP1 hD1
  exact kk H1 locs1 ls (by rw [← h2]; exact hP1) (by rw [← h2]; exact hD1) hS1 hl
end QW4
