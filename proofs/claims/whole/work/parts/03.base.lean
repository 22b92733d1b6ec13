/-! the abstract heap: how many cells, how many slots, kinds, lengths, the rows of ints, of longs, of references -/
abbrev AH : Type := Nat × Nat × (Nat → Nat) × (Nat → Nat) × (Nat → Nat → Int32) × (Nat → Nat → Int64) × (Nat → Nat → Option Nat)
def aN (h : AH) : Nat := h.1
def aS (h : AH) : Nat := h.2.1
def aK (h : AH) : Nat → Nat := h.2.2.1
def aL (h : AH) : Nat → Nat := h.2.2.2.1
def aI (h : AH) : Nat → Nat → Int32 := h.2.2.2.2.1
def aJ (h : AH) : Nat → Nat → Int64 := h.2.2.2.2.2.1
def aP (h : AH) : Nat → Nat → Option Nat := h.2.2.2.2.2.2
def hRI (h : AH) (a : Nat) (f : Nat → Int32) : AH := (aN h, aS h, aK h, aL h, va_up (aI h) a f, aJ h, aP h)
def hRJ (h : AH) (a : Nat) (f : Nat → Int64) : AH := (aN h, aS h, aK h, aL h, aI h, va_up (aJ h) a f, aP h)
def hRP (h : AH) (a : Nat) (f : Nat → Option Nat) : AH := (aN h, aS h, aK h, aL h, aI h, aJ h, va_up (aP h) a f)
def hI (h : AH) (a k : Nat) (v : Int32) : AH := hRI h a (upd (aI h a) k v)
def hJ (h : AH) (a k : Nat) (v : Int64) : AH := hRJ h a (vp_updL (aJ h a) k v)
def hP (h : AH) (a k : Nat) (v : Nat) : AH := hRP h a (va_up (aP h a) k (some v))
def hNew (h : AH) (kd len : Nat) : AH := (aN h + 1, aS h + len, va_up (aK h) (aN h) kd, va_up (aL h) (aN h) len, va_up (aI h) (aN h) (fun _ => 0), va_up (aJ h) (aN h) (fun _ => 0), va_up (aP h) (aN h) (fun _ => none))
theorem up_s {α : Type} (f : Nat → α) (k : Nat) (v : α) : va_up f k v k = v := by simp [va_up]
theorem up_n {α : Type} {f : Nat → α} {k j : Nat} {v : α} (h : j ≠ k) : va_up f k v j = f j := by simp [va_up, h]
def cN (c : Nat) : Nat := match c with
  | 0 => 9 | 1 => 16 | 2 => 14 | 3 => 15 | 4 => 6 | 5 => 5 | 6 => 15 | 7 => 3 | 8 => 6 | 9 => 5 | 10 => 15 | _ => 53
def cTy (c : Nat) : Nat → FieldType := match c with
  | 0 => tyX0 | 1 => tyX1 | 2 => tyX2 | 3 => tyX3 | 4 => tyX4 | 5 => tyX5 | 6 => tyX6 | 7 => tyX8 | 8 => tyX9 | 9 => tyX10 | 10 => tyX11 | _ => tyX12
/-- a field's value by its type -/
def fv (b : Nat) (t : FieldType) (i : Int32) (j : Int64) (p : Option Nat) : Value := match t with
  | .long => .long j
  | .object _ => va_rf (p.map fun x => b + x)
  | .array _ => va_rf (p.map fun x => b + x)
  | _ => .int i
def fvs (b : Nat) (h : AH) (a c : Nat) : List Value := (List.range (cN c)).map fun k => fv b (cTy c k) (aI h a k) (aJ h a k) (aP h a k)
/-- the fixed things: where our cells begin, the heap at the law's entry, the classes' numbers and slots, the arrays' classes -/
abbrev GG : Type := Nat × Heap × va_G × (Nat → ClassId)
def EE (G : GG) (h : AH) (a : Nat) : va_E :=
  if aK h a < 12 then .inr (aK h a, fvs G.1 h a (aK h a))
  else if aK h a = 14 then .inl (G.2.2.2 14, aL h a, .inr (.inl (aJ h a)))
  else if aK h a = 16 then .inl (G.2.2.2 16, aL h a, .inr (.inr (.inr (.inr fun i => (aP h a i).map fun x => G.1 + x))))
  else .inl (G.2.2.2 (aK h a), aL h a, .inl (aI h a))
def tyA (G : GG) : List (ClassId × FieldType) := [(G.2.2.2 12, .byte), (G.2.2.2 13, .int), (G.2.2.2 14, .long), (G.2.2.2 15, .boolean), (G.2.2.2 16, .object "RaftTown$Scene")]
def Rep (G : GG) (h : AH) (H : Heap) : Prop :=
  (∀ a, a < aN h → aK h a ≤ 16 → va_at G.2.2.1 vwCl (G.1 + a, EE G h a) H) ∧ H.size = G.1 + aN h ∧ slotSum H = slotSum G.2.1 + aS h ∧ G.2.1.size = G.1 ∧
  (∀ q : Nat, q < G.1 → H[q]? = G.2.1[q]?) ∧ aN h ≤ 601024 ∧ aS h ≤ 7293034
theorem slotSum_same {H H' : Heap} (z : H'.size = H.size) (o : ∀ (q : Nat) (c c' : Cell), H[q]? = some c → H'[q]? = some c' → c'.slots.size = c.slots.size) : slotSum H' = slotSum H := by
  rw [slotSum_eq, slotSum_eq]
  have : H'.map (·.slots.size) = H.map (·.slots.size) := by
    apply Array.ext
    · simp [z]
    · intro i h1 h2
      rw [Array.size_map] at h1 h2
      rw [Array.getElem_map, Array.getElem_map]
      exact o i _ _ (Array.getElem?_eq_getElem h2) (Array.getElem?_eq_getElem h1)
  rw [this]
theorem slotSum_push (H : Heap) (c : Cell) : slotSum (H.push c) = slotSum H + c.slots.size := by simp [slotSum]
theorem slotSum_set {H H' : Heap} {a : Nat} {c c' : Cell} (z : H'.size = H.size) (h1 : H[a]? = some c) (h2 : H'[a]? = some c') (hs : c'.slots.size = c.slots.size) (o : ∀ q : Nat, q ≠ a → H'[q]? = H[q]?) : slotSum H' = slotSum H := by
  refine slotSum_same z fun q x x' hx hx' => ?_
  by_cases hq : q = a
  · subst hq
    rw [h1] at hx; rw [h2] at hx'
    cases hx; cases hx'
    exact hs
  · rw [o q hq, hx] at hx'
    cases hx'
    rfl
theorem Rep.store {G : GG} {h h' : AH} {H H' : Heap} {a : Nat} {c c' : Cell} (hR : Rep G h H) (ha : a < aN h) (hk : aK h a ≤ 16) (hat : va_at G.2.2.1 vwCl (G.1 + a, EE G h' a) H') (z : H'.size = H.size)
    (h1 : H[G.1 + a]? = some c) (h2 : H'[G.1 + a]? = some c') (hs : c'.slots.size = c.slots.size) (o : ∀ q : Nat, q ≠ G.1 + a → H'[q]? = H[q]?)
    (hn : aN h' = aN h) (hS : aS h' = aS h) (hK : aK h' = aK h) (hE : ∀ b, b ≠ a → EE G h' b = EE G h b) : Rep G h' H' := by
  obtain ⟨r1, r2, r3, r4, r5, r6, r7⟩ := hR
  refine ⟨fun b hb hkb => ?_, by rw [z, hn]; exact r2, by rw [slotSum_set z h1 h2 hs o, hS]; exact r3, r4, fun q hq => ?_, by rw [hn]; exact r6, by rw [hS]; exact r7⟩
  · by_cases hba : b = a
    · subst hba; exact hat
    · rw [hE b hba]
      rw [hn] at hb; rw [hK] at hkb
      exact (r1 b hb hkb).kept (o _ (by show G.1 + b ≠ G.1 + a; omega))
  · rw [o q (by omega)]
    exact r5 q hq
theorem EE_congr {G : GG} {h h' : AH} {b : Nat} (k : aK h' b = aK h b) (n : aL h' b = aL h b) (i : aI h' b = aI h b) (j : aJ h' b = aJ h b) (q : aP h' b = aP h b) : EE G h' b = EE G h b := by
  unfold EE fvs
  rw [k, n, i, j, q]
theorem EE_hRI {G : GG} {h : AH} {a b : Nat} {f : Nat → Int32} (hb : b ≠ a) : EE G (hRI h a f) b = EE G h b := EE_congr rfl rfl (up_n hb) rfl rfl
theorem EE_hRJ {G : GG} {h : AH} {a b : Nat} {f : Nat → Int64} (hb : b ≠ a) : EE G (hRJ h a f) b = EE G h b := EE_congr rfl rfl rfl (up_n hb) rfl
theorem EE_hRP {G : GG} {h : AH} {a b : Nat} {f : Nat → Option Nat} (hb : b ≠ a) : EE G (hRP h a f) b = EE G h b := EE_congr rfl rfl rfl rfl (up_n hb)
theorem EE_hNew {G : GG} {h : AH} {kd len b : Nat} (hb : b ≠ aN h) : EE G (hNew h kd len) b = EE G h b := EE_congr (up_n hb) (up_n hb) (up_n hb) (up_n hb) (up_n hb)
/-- the words of private members of nest mates -/
def nestL : List Cond := [(Cond.methodLinkNest "RaftTown" (15 : Nat) ({ cls := "RaftTown$LagoonText", name := "<init>", desc := "()V" } : MethodName) "RaftTown"), (Cond.methodLinkNest "RaftTown$Lagoon" (42 : Nat) ({ cls := "RaftTown$Ropes", name := "<init>", desc := "()V" } : MethodName) "RaftTown"), (Cond.methodLinkNest "RaftTown$Lagoon" (49 : Nat) ({ cls := "RaftTown$Wishes", name := "<init>", desc := "()V" } : MethodName) "RaftTown"), (Cond.methodLinkNest "RaftTown" (22 : Nat) ({ cls := "RaftTown$PlanText", name := "<init>", desc := "()V" } : MethodName) "RaftTown"), (Cond.methodLinkNest "RaftTown" (29 : Nat) ({ cls := "RaftTown$Scene", name := "<init>", desc := "()V" } : MethodName) "RaftTown"), (Cond.fieldLinkNest "RaftTown$Trial" (40 : Nat) "RaftTown$Town" "lagoon" "LRaftTown$Lagoon;" "RaftTown"), (Cond.methodLinkNest "RaftTown$Lagoon" (108 : Nat) ({ cls := "RaftTown", name := "blockOf", desc := "(II)J" } : MethodName) "RaftTown"), (Cond.methodLinkNest "RaftTown$LagoonText" (203 : Nat) ({ cls := "RaftTown", name := "blockOf", desc := "(II)J" } : MethodName) "RaftTown")]
def NW (U : State) : Prop := ∀ w ∈ nestL, va_Nw w U
theorem NW.warm {s U : State} (hW : s.WarmedH U.vm) (hN : NW s) : NW U := by
  unfold NW nestL
  simp only [List.forall_mem_cons, List.not_mem_nil, false_implies, implies_true, and_true]
  exact ⟨va_Nw.warmM hW (hN _ (List.mem_of_getElem? (i := 0) rfl)), va_Nw.warmM hW (hN _ (List.mem_of_getElem? (i := 1) rfl)), va_Nw.warmM hW (hN _ (List.mem_of_getElem? (i := 2) rfl)), va_Nw.warmM hW (hN _ (List.mem_of_getElem? (i := 3) rfl)), va_Nw.warmM hW (hN _ (List.mem_of_getElem? (i := 4) rfl)), va_Nw.warmF hW (hN _ (List.mem_of_getElem? (i := 5) rfl)), va_Nw.warmM hW (hN _ (List.mem_of_getElem? (i := 6) rfl)), va_Nw.warmM hW (hN _ (List.mem_of_getElem? (i := 7) rfl))⟩
theorem NW.same {s U : State} (h : s.vm = U.vm) (hN : NW s) : NW U := by
  unfold NW nestL
  simp only [List.forall_mem_cons, List.not_mem_nil, false_implies, implies_true, and_true]
  exact ⟨va_Nw.same rfl h (hN _ (List.mem_of_getElem? (i := 0) rfl)), va_Nw.same rfl h (hN _ (List.mem_of_getElem? (i := 1) rfl)), va_Nw.same rfl h (hN _ (List.mem_of_getElem? (i := 2) rfl)), va_Nw.same rfl h (hN _ (List.mem_of_getElem? (i := 3) rfl)), va_Nw.same rfl h (hN _ (List.mem_of_getElem? (i := 4) rfl)), va_Nw.same rfl h (hN _ (List.mem_of_getElem? (i := 5) rfl)), va_Nw.same rfl h (hN _ (List.mem_of_getElem? (i := 6) rfl)), va_Nw.same rfl h (hN _ (List.mem_of_getElem? (i := 7) rfl))⟩
section AWs
variable {G : GG} {p : Program} {l : Launch} {e : Env} {R : Room} {s : State} {m : MethodId} {args : Array Value} {below : List Frame} {meth : Method} {c : Code} {nL : Nat} {Q : State → Prop} {cc : ByteArray} {own : String} {n0 s0 fr lo : Nat}
  {pc : Nat} {lv : List (Nat × Value)} {st : List Value} {h : AH}
/-- at pc with these locals, this stack, this heap the machine comes to Q -/
def AW (G : GG) (p : Program) (l : Launch) (e : Env) (R : Room) (s : State) (m : MethodId) (args : Array Value) (below : List Frame) (meth : Method) (c : Code) (nL : Nat) (Q : State → Prop) (pc : Nat) (lv : List (Nat × Value)) (st : List Value) (h : AH) : Prop :=
  ∀ (H : Heap) (locs : List Loc) (cells slots : Nat) (ls : Array Slot), Rep G h H → (∀ q ∈ locs, G.1 ≤ q.base) → lv_has ls nL lv → W p l e R s m args below meth c H locs cells slots Q (F0 m pc ls st)
/-- what stays the same in a method's body -/
def Cx (G : GG) (p : Program) (R : Room) (s : State) (m : MethodId) (args : Array Value) (meth : Method) (c : Code) (nL : Nat) (cc : ByteArray) (own : String) (n0 s0 fr lo : Nat) : Prop :=
  p.tables.exec = Jvm.exec ∧ c.code = cc ∧ c.maxLocals = nL ∧ s.vm.findClass own = some m.cls ∧ (∀ w ∈ gt, w.before args s = true) ∧ va_K G.2.2.1 vwCl (tyA G) s ∧
  s.heap.size = G.1 + n0 ∧ slotSum s.heap = slotSum G.2.1 + s0 ∧ R = { frames := fr, cells := 601024 - n0, slots := 7293034 - s0, locals := lo } ∧ meth.locks = false ∧ NW s
theorem W_tight {H : Heap} {locs : List Loc} {cells slots : Nat} {g : JFrame} (k : s.heap.size ≤ H.size → slotSum s.heap ≤ slotSum H → W p l e R s m args below meth c H locs (H.size - s.heap.size) (slotSum H - slotSum s.heap) Q g) : W p l e R s m args below meth c H locs cells slots Q g := by
  intro T hT X
  have hb : T.slotsUsed = slotSum T.heap := (State.slotsTrue_iff T).mp X.book
  have hs : s.slotsUsed = slotSum s.heap := by
    have h := X.room
    simp only [State.hasRoom, Bool.and_eq_true] at h
    exact (State.slotsTrue_iff s).mp h.2
  obtain ⟨e1, e2, e3, e4, e5, e6⟩ := X.same
  have e2' : s.heap.size ≤ T.heap.size := e2
  have e4' : T.slotsUsed = s.slotsUsed + ((T.heap.toList.drop s.heap.size).map (·.slots.size)).sum := e4
  subst hT
  refine k e2' (by omega) T rfl { X with same := ⟨e1, e2, ?_, e4, ?_, e6⟩ }
  · show T.heap.size ≤ s.heap.size + (T.heap.size - s.heap.size)
    omega
  · show ((T.heap.toList.drop s.heap.size).map (·.slots.size)).sum ≤ _
    omega
end AWs
