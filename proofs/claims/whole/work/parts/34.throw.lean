def nse : String := "java/util/NoSuchElementException"
def nsn : List String := ["java/lang/RuntimeException", "java/lang/Exception"]
theorem nse_good : ∀ w ∈ (vx_at0 "RaftTown" 131 nse nsn).filter goodWord, w ∈ gt := by decide +kernel
def nseB : List Cond := [.declares ⟨"java/lang/RuntimeException", "<init>", "()V"⟩, .declares ⟨"java/lang/Exception", "<init>", "()V"⟩, .declares ⟨"java/lang/Throwable", "<init>", "()V"⟩, .castable nse nse]
theorem nse_bad : ∀ w ∈ (vx_at0 "RaftTown" 131 nse nsn).filter (fun w => !goodWord w), w ∈ nseB := by decide +kernel
theorem nse_ot : ∀ w ∈ Cond.classLink "RaftTown" 129 nse :: Cond.initialized nse :: vx_at0 "RaftTown" 131 nse nsn, vx_ot w = true := by decide +kernel
/-- what the throws need of the state beside the good words -/
def XE (G : GG) (U : State) : Prop := (∀ w ∈ nseB, va_Nw w U) ∧ vx_Zq Bundle.tN "UNASSIGNED_STACK" Bundle.steD (fun q => G.1 ≤ q) U G.2.1 ∧ vx_Zq Bundle.tN "SUPPRESSED_SENTINEL" Bundle.listD (fun q => G.1 ≤ q) U G.2.1
theorem XE.warm {G : GG} {s U : State} (hW : s.WarmedH U.vm) (h : XE G s) : XE G U := by
  obtain ⟨h1, h2, h3⟩ := h
  refine ⟨?_, h2.moved hW.alike, h3.moved hW.alike⟩
  unfold nseB
  simp only [List.forall_mem_cons, List.not_mem_nil, false_implies, implies_true, and_true]
  exact ⟨va_Nw.warmD hW (h1 _ (List.mem_of_getElem? (i := 0) rfl)), va_Nw.warmD hW (h1 _ (List.mem_of_getElem? (i := 1) rfl)), va_Nw.warmD hW (h1 _ (List.mem_of_getElem? (i := 2) rfl)), va_Nw.warmC hW (h1 _ (List.mem_of_getElem? (i := 3) rfl))⟩
theorem XE.same {G : GG} {s U : State} (hv : s.vm = U.vm) (h : XE G s) : XE G U := h.warm (by rw [← hv]; exact State.WarmedH.refl s)
theorem XE.at0 {G : GG} {s : State} {args : Array Value} (h : XE G s) (hts : ∀ w ∈ gt, w.before args s = true) : ∀ w ∈ vx_at0 "RaftTown" 131 nse nsn, w.before args s = true :=
  vx_hat (fun w hw => hts w (nse_good w hw)) nse_bad (fun w hw => va_Nw.use (by revert w; decide) (h.1 w hw))
section YX
variable {p : Program} {l : Launch} {e : Env} {R : Room} {s : State} {m : MethodId} {args : Array Value} {below : List Frame} {meth : Method} {c : Code} {H : Heap} {locs : List Loc} {cells slots : Nat} {Q : State → Prop}
variable {mc ms : Nat} {free : Addr → Prop} {A0 A1 : Nat → Prop} {H0 : Heap} {a : Array Value} {ls : Array Slot} {st0 rest : List Value}
variable {Qc : Array Value → State → Outcome → State → Prop} {XC : String → State → State → Prop}
theorem yx_throw0 {cc : ByteArray} {pc : Nat} (hexec : p.tables.exec = Jvm.exec) (hb : c.code = cc) (hl : l.stackTraces = false) {own cls : String} {names : List String} {ik ic mc ms : Nat} {A : Nat → Prop}
    (hown : s.vm.findClass own = some m.cls) (hcls : Bundle.fit cls = true) (hnames : ∀ n ∈ names, Bundle.fit n = true)
    (hk : (Cond.classLink own ik cls).before args s = true) (hini : (Cond.initialized cls).before args s = true) (hat : ∀ w ∈ vx_at0 own ic cls names, w.before args s = true)
    (hgood : ∀ w ∈ Cond.classLink own ik cls :: Cond.initialized cls :: vx_at0 own ic cls names, vx_ot w = true)
    (hU : vx_Zq Bundle.tN "UNASSIGNED_STACK" Bundle.steD A s s.heap) (hN : vx_Zq Bundle.tN "SUPPRESSED_SENTINEL" Bundle.listD A s s.heap) (hS : va_S A s.heap H locs) (hsize : ls.size = c.maxLocals)
    (d0 : decode cc pc = .ok (.new ik, 3)) (d3 : decode cc (pc + 3) = .ok (.dup, 1)) (d4 : decode cc (pc + 4) = .ok (.invokespecial ic, 3)) (d7 : decode cc (pc + 7) = .ok (.athrow, 1))
    (hout : ∀ x ∈ c.exceptionTable.toList, covers x (pc + 7) = false)
    (hRframes : names.length + 3 < R.frames) (hRlocals : (rest.map fun v => v.category).sum + (13 * (names.length + 1) + 42) ≤ R.locals) (hRcells : cells + 1 ≤ R.cells) (hRslots : slots + 6 ≤ R.slots) (hlocks : meth.locks = false)
    (hx : ∀ t : State, s.vm.Alike t.vm → t.heap.size = H.size + 1 → (∀ q : Nat, q < H.size → t.heap[q]? = H[q]?) → (∃ k, k ≤ 6 ∧ slotSum t.heap = slotSum H + k) → XC cls s t)
    (hf : ∀ z ∈ locs, free z.base) (hc : cells + 1 ≤ mc) (hs : slots + 6 ≤ ms) :
    W p l e R s m args below meth c H locs cells slots (vx_MQ below Qc XC args s mc ms free) (F0 m pc ls rest) := by
  intro T hT X
  have htr : e.platform.stackTraces = false := (show e.platform.stackTraces = l.stackTraces by rw [X.admits.platform]).trans hl
  have Y := vx_rebase X (R' := { frames := R.frames, locals := R.locals, cells := 1, slots := 6 }) (Nat.le_refl _) (Nat.le_refl _) hRcells hRslots
  obtain ⟨s', hA⟩ : ∃ z, z = (T.setVm s.vm).setFrames (.invoking m args :: below) := ⟨_, rfl⟩
  rw [← hA] at Y
  have hvm : s'.vm = s.vm := by rw [hA]; rfl
  have hhp : s'.heap = H := by rw [hA]; exact hT
  have hW0 : s.WarmedH s'.vm := by rw [hvm]; exact State.WarmedH.refl s
  have hat' : ∀ w ∈ vx_at0 own ic cls names, w.before args s' = true := fun w hw => vx_ot_at hW0 hvm.symm (hgood w (List.mem_cons_of_mem _ (List.mem_cons_of_mem _ hw))) (hat w hw)
  have hk' : (Cond.classLink own ik cls).before args s' = true := vx_ot_at hW0 hvm.symm (hgood _ List.mem_cons_self) hk
  have hini' : (Cond.initialized cls).before args s' = true := vx_ot_at hW0 hvm.symm (hgood _ (List.mem_cons_of_mem _ List.mem_cons_self)) hini
  have hU' : vx_Zq Bundle.tN "UNASSIGNED_STACK" Bundle.steD A s' s'.heap := by rw [hhp]; exact vx_Zq.moved hW0.alike (hU.kept hS.2.1)
  have hN' : vx_Zq Bundle.tN "SUPPRESSED_SENTINEL" Bundle.listD A s' s'.heap := by rw [hhp]; exact vx_Zq.moved hW0.alike (hN.kept hS.2.1)
  have h : ∀ w ∈ Bundle.ownAtoms0 own ic cls names, w.before args s' = true := vx_own hat' (vx_isRefq hU'.1) (vx_isRefq hN'.1) hU'.2.word hN'.2.word
  have hown' : s'.vm.findClass own = some m.cls := by rw [hvm]; exact hown
  have hins : (Cond.instantiable cls 6).before args s' = true := h _ (by simp [Bundle.ownAtoms0])
  obtain ⟨vm₁, cX, kX, hfX, hkX, -, -, X₁, st1⟩ := Y.newCold hexec (own := own) (C := cls) (index := ik) (n := 6) hown' hk' hins hini'
    (g := F0 m pc ls rest) rfl (by rw [hb]; exact d0) (Nat.le_refl _) (Nat.le_refl _)
  generalize hT1 : (T.setVm vm₁).pushCell { cls := cX, slots := kX.instanceTypes.map defaultValue, vm := .none } = T1 at X₁ st1
  have hcat : (Value.ref T.heap.size).category = 1 := rfl
  have hcellA : T1.heap[T.heap.size]? = some (freshCell cX kX) := by rw [← hT1]; exact State.heap_pushCell_size _ _
  have d3' : decode c.code (pc + 3) = .ok (.dup, 1) := by rw [hb]; exact d3
  obtain ⟨U, hsteps, hrun, hend, hW, hsame, ce, hce, hO⟩ := X₁.ctorThrow0 hexec htr (own := own) (cls := cls) (names := names) (ic := ic) hown' hcls hnames h (fun x hx => nomatch hx) hfX hkX hcellA (by rw [hhp, hT]; exact Nat.le_refl _)
    (g := { method := m, pc := pc + 4, locals := ls, stack := .ref T.heap.size :: .ref T.heap.size :: rest, locked := none }) rfl hsize rfl rfl (rest := rest) rfl
    (by rw [hb]; exact d4) (by rw [hb]; exact d7) hout hRframes (by simp only [List.map_cons, List.sum_cons, hcat]; omega) hlocks
  obtain ⟨f1, f2⟩ := vx_frame hsame
  rw [hhp] at f1 f2
  have g2 : ∀ q : Nat, q < H.size → U.heap[q]? = H[q]? := fun q hq => f2 q hq (fun z hz => nomatch hz)
  have hTs : T.heap.size = H.size := by rw [hT]
  have g0 : H.size < U.heap.size := by rw [← hTs]; exact (Array.getElem?_eq_some_iff.mp hce).1
  have g1 : U.heap.size = H.size + 1 := by
    have q1 : U.heap.size ≤ s'.heap.size + (0 + 1) := hsame.2.2.1
    rw [hhp] at q1
    omega
  have hce' : U.heap[H.size]? = some ce := by rw [← hTs]; exact hce
  have g3 : ∃ k, k ≤ 6 ∧ slotSum U.heap = slotSum H + k := by
    refine ⟨ce.slots.size, ?_, slotSum_snoc g1 g2 hce'⟩
    have q2 : ((U.heap.toList.drop s'.heap.size).map (·.slots.size)).sum ≤ 0 + 6 := hsame.2.2.2.2.1
    rw [hhp] at q2
    have q3 : U.heap.toList.drop H.size = [ce] := by
      apply List.ext_getElem?
      intro i
      rw [List.getElem?_drop, Array.getElem?_toList]
      match i with
      | 0 => exact hce'
      | i + 1 => rw [Array.getElem?_eq_none (by omega)]; rfl
    rw [q3] at q2
    simp at q2
    omega
  have hWs : s.WarmedH U.vm := State.WarmedH.trans hW0 hW
  have hcl : s.vm.findClass cls = some ce.cls := by
    have h9 := hO.cls
    rw [hvm] at h9
    exact h9
  have hall : s.sameButNew ({ U with vm := s.vm } : State) locs mc ms := by
    subst hA
    obtain ⟨e1, e2⟩ := hsame
    rw [State.setFrames_setFrames] at e1
    have h2 : (T.setVm s.vm).sameButNew ({ U with vm := s.vm } : State) [] (0 + 1) (0 + 6) := ⟨e1, e2⟩
    have h3 := X.same.trans h2
    rw [List.append_nil] at h3
    exact h3.mono hc hs
  refine ⟨U, ?_, .threw T.heap.size, hrun, hend, Or.inr ⟨T.heap.size, rfl, cls, ce, locs, hx U hWs.alike g1 g2 g3, hce, hO.vm, hcl, hWs, hall, hf⟩⟩
  refine st1 _ ?_
  show Steps p.tables e below (T1.setTop { method := m, pc := pc + 3, locals := ls, stack := .ref T.heap.size :: rest, locked := none }) _
  jvm_step X₁.here [X₁.here.top, hexec, d3', Value.category]
  exact hsteps
end YX
def XCt (G : GG) (px : AH → Prop) : String → State → State → Prop := fun E _ t => E = nse ∧ ∃ h' : AH, Rep G h' t.heap ∧ px h'
/-- a contract of a method that may throw: then one cell more is there -/
def MT (G : GG) (y : MethodName) (cc : ByteArray) (nL : Nat) (ret : Option FieldType) (fr lo : Nat) (h : AH) (av : List Value) (post : AH → Option Value → Prop) (px : AH → Prop) : Prop :=
  ∀ l : Launch, l.stackTraces = false → vx_Met l y (Cond.code y cc nL ret :: gt) { frames := fr, cells := 601024 - aN h, slots := 7293034 - aS h, locals := lo } (va_Pc av (fun U => Rep G h U.heap ∧ va_K G.2.2.1 vwCl (tyA G) U ∧ NW U ∧ XE G U)) (QcP G post) (XCt G px) (601024 - aN h) (7293034 - aS h) (fun q => G.1 ≤ q)
section MTs
variable {G : GG} {p : Program} {l : Launch} {e : Env} {R : Room} {s : State} {m : MethodId} {args : Array Value} {below : List Frame} {meth : Method} {c : Code} {nL : Nat} {Q : State → Prop} {cc : ByteArray} {own : String} {n0 s0 fr lo : Nat}
  {pc : Nat} {lv : List (Nat × Value)} {st : List Value} {h h' : AH} {a b k ci index : Nat}
  {y x : MethodName} {cc' : ByteArray} {nL' fr' lo' n : Nat} {ret : Option FieldType} {As rest : List Value} {post : AH → Option Value → Prop} {px : AH → Prop}
abbrev QT (G : GG) (post : AH → Option Value → Prop) (px : AH → Prop) (args : Array Value) (s : State) (below : List Frame) (n0 s0 : Nat) : State → Prop := vx_MQ below (QcP G post) (XCt G px) args s (601024 - n0) (7293034 - s0) (fun q => G.1 ≤ q)
theorem MT.of {av : List Value} (hy : plainName y.cls = true) (hln : (lg_sl av).length ≤ nL) (hlv : lv_args 0 av = lv)
    (body : ∀ (p : Program) (l : Launch) (e : Env) (R : Room) (s : State) (m : MethodId) (args : Array Value) (below : List Frame) (meth : Method) (c : Code), l.stackTraces = false → Cx G p R s m args meth c nL cc y.cls (aN h) (aS h) fr lo → XE G s → Rep G h s.heap → (∀ x ∈ c.exceptionTable.toList, False) → meth.sig.returnType = ret →
      AW G p l e R s m args below meth c nL (QT G post px args s below (aN h) (aS h)) 0 lv [] h) : MT G y cc nL ret fr lo h av post px := by
  intro l hlt
  refine vx_ofW (cc := cc) (maxL := nL) (ret := ret) hy rfl ?_
  intro p e s m args below meth c s₁ B hml htab hv
  obtain ⟨rfl, hR, hK, hN, hE⟩ := hv
  have hts := atoms_spec (ws := Cond.code y cc nL ret :: gt) B.pre
  have hown : s.vm.findClass y.cls = some m.cls := findClass_of_methodNamed B.named
  have hC : Cx G p { frames := fr, cells := 601024 - aN h, slots := 7293034 - aS h, locals := lo } s m av.toArray meth c nL cc y.cls (aN h) (aS h) fr lo :=
    ⟨B.exec, B.bytes, hml, hown, fun w hw => hts w (List.mem_cons_of_mem _ hw), hK, hR.2.1, hR.2.2.1, rfl, B.notSynchronized, hN⟩
  have hl := lv_entry av hln
  rw [hlv] at hl
  rw [lg_entry_eq]
  exact body p l e _ s m _ below meth c hlt hC hE hR htab B.returns s.heap [] 0 0 _ hR (fun q hq => by cases hq) hl
theorem t_iret (C : Cx G p R s m args meth c nL cc own n0 s0 fr lo) {pst : AH → Int32 → Prop} {x : Int32} (hr : meth.sig.returnType = some .int) (hd : decode cc pc = .ok (.ireturn, 1)) (hp : pst h x) : AW G p l e R s m args below meth c nL (QT G (pI pst) px args s below n0 s0) pc lv [.int x] h :=
  fun H locs cells slots ls hR hlo hl => vx_ret (r_iret C hr hd hp H locs cells slots ls hR hlo hl)
theorem t_throw (C : Cx G p R s m args meth c nL cc "RaftTown" n0 s0 fr lo) (hlt : l.stackTraces = false) (hE : XE G s) {h0 : AH} (hR0 : Rep G h0 s.heap) (htab : ∀ x ∈ c.exceptionTable.toList, False) (hcl : Cond.classLink "RaftTown" 129 nse ∈ gt) (hini : Cond.initialized nse ∈ gt)
    (d0 : decode cc pc = .ok (.new 129, 3)) (d3 : decode cc (pc + 3) = .ok (.dup, 1)) (d4 : decode cc (pc + 4) = .ok (.invokespecial 131, 3)) (d7 : decode cc (pc + 7) = .ok (.athrow, 1)) (hfr : 5 < fr ∧ 81 ≤ lo)
    (hroom : aN h < 601024 ∧ aS h + 6 ≤ 7293034) (hp : ∀ k, k ≤ 6 → px (hNew h 17 k)) : AW G p l e R s m args below meth c nL (QT G post px args s below n0 s0) pc lv [] h := by
  intro H locs cells slots ls hR hlo hlv
  have hts := C.2.2.2.2.1
  have hRe := C.2.2.2.2.2.2.2.2.1
  refine W_tight fun t1 t2 => ?_
  obtain ⟨d1, d2, d3', d4', d5, d6, d7', d8⟩ := C.cells hR t1 t2
  have hlow : ∀ q : Nat, q < G.2.1.size → ¬ G.1 ≤ q → s.heap[q]? = G.2.1[q]? := fun q _ h2 => hR0.2.2.2.2.1 q (Nat.not_le.mp h2)
  have hS : va_S (fun q => G.1 ≤ q) s.heap H locs := ⟨t1, fun q h1 h2 => by rw [hR.2.2.2.2.1 q (Nat.not_le.mp h2), hR0.2.2.2.2.1 q (Nat.not_le.mp h2)], hlo⟩
  refine yx_throw0 (names := nsn) (A := fun q => G.1 ≤ q) C.1 C.2.1 hlt C.2.2.2.1 (by decide) (by decide) (hts _ hcl) (hts _ hini) (hE.at0 hts) nse_ot (hE.2.1.kept hlow) (hE.2.2.kept hlow) hS (by rw [C.2.2.1]; exact hlv.1) d0 d3 d4 d7 (fun x hx => (htab x hx).elim)
    (by show 2 + 3 < R.frames; omega) (by show 0 + (13 * (2 + 1) + 42) ≤ R.locals; omega) (by omega) (by omega) C.2.2.2.2.2.2.2.2.2.1 (fun t _ z o hk => ?_) hlo (by omega) (by omega)
  obtain ⟨k, hk6, hks⟩ := hk
  refine ⟨rfl, hNew h 17 k, ?_, hp k hk6⟩
  obtain ⟨r1, r2, r3, r4, r5, r6, r7⟩ := hR
  refine ⟨fun b hb hkb => ?_, ?_, ?_, r4, fun q hq => ?_, ?_, ?_⟩
  · have hb' : b < aN h + 1 := hb
    have hkb' : va_up (aK h) (aN h) 17 b ≤ 16 := hkb
    by_cases hba : b = aN h
    · subst hba; rw [up_s] at hkb'; omega
    · rw [EE_hNew hba]
      rw [up_n hba] at hkb'
      exact (r1 b (by omega) hkb').kept (o _ (by show G.1 + b < H.size; omega))
  · show t.heap.size = G.1 + (aN h + 1)
    omega
  · show slotSum t.heap = slotSum G.2.1 + (aS h + k)
    omega
  · rw [o q (by omega)]; exact r5 q hq
  · show aN h + 1 ≤ 601024
    omega
  · show aS h + k ≤ 7293034
    omega
end MTs
