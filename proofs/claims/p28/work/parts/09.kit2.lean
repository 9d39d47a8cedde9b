/-! the links between nest mates; they stay when the tables grow warm -/
def q_nest : List Cond := [.fieldLinkNest "SortCases" 268 "SortCases$Boxes" "sortedBox" "I" "SortCases", .fieldLinkNest "SortCases$State" 121 "SortCases$Line" "length" "I" "SortCases", .fieldLinkNest "SortCases" 191 "SortCases$Line" "length" "I" "SortCases", .fieldLinkNest "SortCases" 111 "SortCases$State" "boxes" "LSortCases$Boxes;" "SortCases", .fieldLinkNest "SortCases" 79 "SortCases$State" "line" "LSortCases$Line;" "SortCases", .fieldLinkNest "SortCases" 265 "SortCases$State" "hand" "I" "SortCases", .fieldLinkNest "SortCases" 292 "SortCases$State" "lettersSet" "I" "SortCases", .fieldLinkNest "SortCases" 295 "SortCases$State" "typesMoved" "I" "SortCases", .fieldLinkNest "SortCases" 298 "SortCases$State" "beatsPassed" "I" "SortCases", .fieldLinkNest "SortCases" 301 "SortCases$State" "corrections" "I" "SortCases", .fieldLinkNest "SortCases" 304 "SortCases$State" "linesReturned" "I" "SortCases", .fieldLinkNest "SortCases" 167 "SortCases$State" "stopPart" "I" "SortCases", .fieldLinkNest "SortCases" 170 "SortCases$State" "stopReason" "I" "SortCases", .fieldLinkNest "SortCases" 180 "SortCases$History" "size" "I" "SortCases", .methodLinkNest "SortCases" 11 yX4_init "SortCases", .methodLinkNest "SortCases$State" 20 yX2_init "SortCases", .methodLinkNest "SortCases$History" 24 yX4_init "SortCases", .methodLinkNest "SortCases" 32 yX5_init "SortCases", .methodLinkNest "SortCases$Line" 33 yX6_widthOf "SortCases", .methodLinkNest "SortCases$State" 73 yX6_widthOf "SortCases"]
def q_Ns (Z : (Nat → Prop) → State → Heap → Prop) : Prop := ∀ (A : Nat → Prop) (U : State) (H : Heap), Z A U H → ∀ w ∈ q_nest, va_Nw w U
section QN
variable {p : Program} {s : State} {m : MethodId} {args : Array Value} {c : Code} {cc : ByteArray} {nL : Nat} {Ts : List Cond} {own : String} {D : va_G} {tys : List (ClassId × FieldType)} {Z : (Nat → Prop) → State → Heap → Prop} {A : Nat → Prop}
theorem q_nst (hN : q_Ns Z) (C : q_C p s m args c cc nL Ts own D tys Z A) {w : Cond} (h : w ∈ q_nest) : va_Nw w s := hN _ _ _ C.2.2.2.2.2.2.2.1 w h
theorem q_nsb (hN : q_Ns Z) (C : q_C p s m args c cc nL Ts own D tys Z A) {w : Cond} (h : w ∈ q_nest) (hw : w.onTables = true) : w.before args s = true := va_Nw.use hw (q_nst hN C h)
end QN
section QO
variable {p : Program} {l : Launch} {e : Env} {R : Room} {s : State} {m : MethodId} {args : Array Value} {below : List Frame} {meth : Method} {c : Code} {Q : State → Prop} {D : va_G} {A : Nat → Prop} {nL cells slots pc : Nat} {L : List (Nat × Value)} {st : List Value} {Rs Rs' : List va_W}
/-- the regions in another order -/
theorem q_reord (is : List Nat) {n : Nat} (hp : is.Perm (List.range n)) (hl : Rs.length = n) (he : is.filterMap (fun i => Rs[i]?) = Rs') (kk : q_V p l e R s m args below meth c D A nL Q cells slots pc L st Rs') : q_V p l e R s m args below meth c D A nL Q cells slots pc L st Rs := by
  have h1 : Rs.flatten.Perm (Rs'.flatten ++ ([] : List va_W).flatten) := q_perm is [] (by rw [hl, List.append_nil]; exact hp) he rfl
  rw [show ([] : List va_W).flatten = [] from rfl, List.append_nil] at h1
  intro H locs ls hP hD hS hL
  refine kk H locs ls ?_ ?_ hS hL
  · rw [q_Pm] at hP ⊢
    exact fun q hq => hP q (h1.mem_iff.mpr hq)
  · rw [q_Dm] at hD ⊢
    exact ⟨(h1.map Prod.fst).nodup_iff.mp hD.1, fun q hq => hD.2 q (h1.mem_iff.mpr hq)⟩
end QO
