def okT (t : FieldType) : Bool := match t with
  | .float => false
  | .double => false
  | _ => true
theorem okT_def {t : FieldType} (h : okT t = true) (b : Nat) : defaultValue t = fv b t 0 0 none := by
  cases t <;> simp [okT] at h <;> rfl
def NL (own : String) (index ci : Nat) : Prop := ∃ (Cn : String) (T : u_T) (N : Nat), CI ci Cn T N ∧ Cond.classLink own index Cn ∈ gt ∧ Cond.instantiable Cn N ∈ gt ∧ Cond.initialized Cn ∈ gt ∧ ∀ j, j < N → okT (cTy ci j) = true
theorem slotSum_snoc {H H' : Heap} {c : Cell} (z : H'.size = H.size + 1) (o : ∀ q : Nat, q < H.size → H'[q]? = H[q]?) (hc : H'[H.size]? = some c) : slotSum H' = slotSum H + c.slots.size := by
  have : H' = H.push c := by
    apply Array.ext_getElem?
    intro i
    rw [Array.getElem?_push]
    by_cases h : i = H.size
    · rw [if_pos h, h, hc]
    · rw [if_neg h]
      by_cases h2 : i < H.size
      · exact o i h2
      · rw [Array.getElem?_eq_none (by omega), Array.getElem?_eq_none (by omega)]
  rw [this, slotSum_push]
theorem Rep.grow {G : GG} {h : AH} {H H' : Heap} {kd len : Nat} {c : Cell} (hR : Rep G h H) (z : H'.size = H.size + 1) (o : ∀ q : Nat, q < H.size → H'[q]? = H[q]?) (hc : H'[H.size]? = some c) (hlen : c.slots.size = len)
    (hat : va_at G.2.2.1 vwCl (G.1 + aN h, EE G (hNew h kd len) (aN h)) H') (hroom : aN h < 601024 ∧ aS h + len ≤ 7293034) : Rep G (hNew h kd len) H' := by
  obtain ⟨r1, r2, r3, r4, r5, r6, r7⟩ := hR
  refine ⟨fun b hb hkb => ?_, ?_, ?_, r4, fun q hq => ?_, ?_, ?_⟩
  · have hb' : b < aN h + 1 := hb
    by_cases hba : b = aN h
    · subst hba; exact hat
    · rw [EE_hNew hba]
      have hkb' : va_up (aK h) (aN h) kd b ≤ 16 := hkb
      rw [up_n hba] at hkb'
      exact (r1 b (by omega) hkb').kept (o _ (by show G.1 + b < H.size; omega))
  · show H'.size = G.1 + (aN h + 1)
    omega
  · show slotSum H' = slotSum G.2.1 + (aS h + len)
    rw [slotSum_snoc z o hc, hlen]; omega
  · rw [o q (by omega)]; exact r5 q hq
  · show aN h + 1 ≤ 601024
    omega
  · show aS h + len ≤ 7293034
    omega
theorem hNew_K {h : AH} {kd len : Nat} : aK (hNew h kd len) (aN h) = kd := up_s _ _ _
theorem hNew_L {h : AH} {kd len : Nat} : aL (hNew h kd len) (aN h) = len := up_s _ _ _
theorem hNew_I {h : AH} {kd len : Nat} : aI (hNew h kd len) (aN h) = fun _ => 0 := up_s _ _ _
theorem hNew_J {h : AH} {kd len : Nat} : aJ (hNew h kd len) (aN h) = fun _ => 0 := up_s _ _ _
theorem hNew_P {h : AH} {kd len : Nat} : aP (hNew h kd len) (aN h) = fun _ => none := up_s _ _ _
section RN
variable {G : GG} {p : Program} {l : Launch} {e : Env} {R : Room} {s : State} {m : MethodId} {args : Array Value} {below : List Frame} {meth : Method} {c : Code} {nL : Nat} {Q : State → Prop} {cc : ByteArray} {own : String} {n0 s0 fr lo : Nat}
  {pc : Nat} {lv : List (Nat × Value)} {st : List Value} {h h' : AH} {a k ci index : Nat}
theorem Cx.cells (C : Cx G p R s m args meth c nL cc own n0 s0 fr lo) {H : Heap} (hR : Rep G h H) (t1 : s.heap.size ≤ H.size) (t2 : slotSum s.heap ≤ slotSum H) : H.size - s.heap.size = aN h - n0 ∧ n0 ≤ aN h ∧ slotSum H - slotSum s.heap = aS h - s0 ∧ s0 ≤ aS h ∧ R.cells = 601024 - n0 ∧ R.slots = 7293034 - s0 ∧ R.frames = fr ∧ R.locals = lo := by
  obtain ⟨-, -, -, -, -, -, c1, c2, c3, -⟩ := C
  obtain ⟨-, r2, r3, -⟩ := hR
  subst c3
  refine ⟨by omega, by omega, by omega, by omega, rfl, rfl, rfl, rfl⟩
theorem r_new (C : Cx G p R s m args meth c nL cc own n0 s0 fr lo) (F : NL own index ci) (hroom : aN h < 601024 ∧ aS h + cN ci ≤ 7293034) (hd : decode cc pc = .ok (.new index, 3))
    (kk : AW G p l e R s m args below meth c nL Q (pc + 3) lv (.ref (G.1 + aN h) :: st) (hNew h ci (cN ci))) : AW G p l e R s m args below meth c nL Q pc lv st h := by
  obtain ⟨Cn, T, N, ⟨c1, c2, c3, c4, c5, c6⟩, l1, l2, l3, l4⟩ := F
  intro H locs cells slots ls hR hlo hl
  refine W_tight fun t1 t2 => ?_
  have hts := C.2.2.2.2.1
  have hKn := C.2.2.2.2.2.1.1 ci _ c1
  obtain ⟨d1, d2, d3, d4, d5, d6, -, -⟩ := C.cells hR t1 t2
  refine W.newc C.1 C.2.1 C.2.2.2.1 (hts _ l1) (hts _ l2) (hts _ l3) rfl hd (by omega) (by omega) fun cC kC g1 g2 g3 g4 => ?_
  have e0 : H.size = G.1 + aN h := hR.2.1
  have e1 : (H.push (blank cC kC))[H.size]? = some (blank cC kC) := by simp
  have hC : cC = G.2.2.1.1 ci := Option.some.inj (g1.symm.trans hKn.2.1)
  subst hC
  have hrep : Rep G (hNew h ci (cN ci)) (H.push (blank (G.2.2.1.1 ci) kC)) := by
    refine hR.grow (by simp) (fun q hq => by rw [Array.getElem?_push, if_neg (by omega)]) e1 (by show (kC.instanceTypes.map defaultValue).size = _; rw [Array.size_map, g4, c3]) ?_ hroom
    rw [EE_obj hNew_K c2]
    refine ⟨_, c1, (u_born _ hts c4 hKn g2 (o := G.1 + aN h) (by rw [← e0]; exact e1) c5).to fun j hj => ?_⟩
    have := fvs_get (b := G.1) (h := hNew h ci (cN ci)) (a := aN h) (c := ci) (k := j) (by omega)
    show _ = (fvs G.1 (hNew h ci (cN ci)) (aN h) ci).getD j .null
    rw [List.getD_eq_getElem?_getD, this, hNew_I, hNew_J, hNew_P]
    exact okT_def (l4 j hj) G.1
  rw [e0]
  exact kk _ locs _ _ ls hrep hlo hl
theorem r_newarr (C : Cx G p R s m args meth c nL cc own n0 s0 fr lo) {atype : ArrayType} {n : Int32} (kd t0 : Nat) (hw : Cond.arrayClass (newarray.typeOf atype) ∈ gt) (hcl : ∀ cA, s.vm.findClass ("[" ++ (newarray.typeOf atype).toString) = some cA → cA = G.2.2.2 kd)
    (hcell : ∀ N, EE G (hNew h kd N) (aN h) = .inl (G.2.2.2 kd, N, if kd = 14 then .inr (.inl fun _ => 0) else .inl fun _ => 0)) (hdv : defaultValue (newarray.typeOf atype) = if kd = 14 then .long 0 else .int 0) (hcb : componentBytes (newarray.typeOf atype) ≤ 8)
    (hn : ¬ n < 0) (hroom : aN h < 601024 ∧ aS h + n.toNatClampNeg ≤ 7293034) (hd : decode cc pc = .ok (.newarray atype, 2))
    (kk : AW G p l e R s m args below meth c nL Q (pc + 2) lv (.ref (G.1 + aN h) :: st) (hNew h kd n.toNatClampNeg)) : AW G p l e R s m args below meth c nL Q pc lv (.int n :: st) h := by
  intro H locs cells slots ls hR hlo hl
  refine W_tight fun t1 t2 => ?_
  have hts := C.2.2.2.2.1
  obtain ⟨d1, d2, d3, d4, d5, d6, -, -⟩ := C.cells hR t1 t2
  have hb : n.toNatClampNeg * componentBytes (newarray.typeOf atype) ≤ n.toNatClampNeg * 8 := Nat.mul_le_mul_left _ hcb
  refine va_newaK C.1 C.2.1 (hts _ hw) rfl hd rfl hn rfl (by omega) (by omega) (by omega) rfl fun H' cA e1 z o hAr hNm => ?_
  have e0 : H.size = G.1 + aN h := hR.2.1
  have hrep : Rep G (hNew h kd n.toNatClampNeg) H' := by
    refine hR.grow z o e1 (arrV_size _ _ _) ?_ hroom
    rw [hcell]
    rw [hcl cA hNm, hdv, e0] at e1
    by_cases hk : kd = 14
    · rw [if_pos hk] at e1 ⊢; exact e1
    · rw [if_neg hk] at e1 ⊢; exact e1
  rw [e0]
  exact kk H' locs _ _ ls hrep hlo hl
theorem r_newI (C : Cx G p R s m args meth c nL cc own n0 s0 fr lo) {n : Int32} (hn : ¬ n < 0) (hroom : aN h < 601024 ∧ aS h + n.toNatClampNeg ≤ 7293034) (hd : decode cc pc = .ok (.newarray .int, 2)) (hw : Cond.arrayClass .int ∈ gt)
    (kk : AW G p l e R s m args below meth c nL Q (pc + 2) lv (.ref (G.1 + aN h) :: st) (hNew h 13 n.toNatClampNeg)) : AW G p l e R s m args below meth c nL Q pc lv (.int n :: st) h :=
  r_newarr (atype := .int) C 13 1 hw (fun cA q => Option.some.inj (q.symm.trans (C.2.2.2.2.2.1.2 1 _ rfl).2)) (fun N => by rw [EE_I hNew_K (by omega), hNew_L, hNew_I]; rfl) rfl (by decide) hn hroom hd kk
theorem r_newB (C : Cx G p R s m args meth c nL cc own n0 s0 fr lo) {n : Int32} (hn : ¬ n < 0) (hroom : aN h < 601024 ∧ aS h + n.toNatClampNeg ≤ 7293034) (hd : decode cc pc = .ok (.newarray .byte, 2)) (hw : Cond.arrayClass .byte ∈ gt)
    (kk : AW G p l e R s m args below meth c nL Q (pc + 2) lv (.ref (G.1 + aN h) :: st) (hNew h 12 n.toNatClampNeg)) : AW G p l e R s m args below meth c nL Q pc lv (.int n :: st) h :=
  r_newarr (atype := .byte) C 12 0 hw (fun cA q => Option.some.inj (q.symm.trans (C.2.2.2.2.2.1.2 0 _ rfl).2)) (fun N => by rw [EE_I hNew_K (by omega), hNew_L, hNew_I]; rfl) rfl (by decide) hn hroom hd kk
theorem r_newZ (C : Cx G p R s m args meth c nL cc own n0 s0 fr lo) {n : Int32} (hn : ¬ n < 0) (hroom : aN h < 601024 ∧ aS h + n.toNatClampNeg ≤ 7293034) (hd : decode cc pc = .ok (.newarray .boolean, 2)) (hw : Cond.arrayClass .boolean ∈ gt)
    (kk : AW G p l e R s m args below meth c nL Q (pc + 2) lv (.ref (G.1 + aN h) :: st) (hNew h 15 n.toNatClampNeg)) : AW G p l e R s m args below meth c nL Q pc lv (.int n :: st) h :=
  r_newarr (atype := .boolean) C 15 3 hw (fun cA q => Option.some.inj (q.symm.trans (C.2.2.2.2.2.1.2 3 _ rfl).2)) (fun N => by rw [EE_I hNew_K (by omega), hNew_L, hNew_I]; rfl) rfl (by decide) hn hroom hd kk
theorem r_newJ (C : Cx G p R s m args meth c nL cc own n0 s0 fr lo) {n : Int32} (hn : ¬ n < 0) (hroom : aN h < 601024 ∧ aS h + n.toNatClampNeg ≤ 7293034) (hd : decode cc pc = .ok (.newarray .long, 2)) (hw : Cond.arrayClass .long ∈ gt)
    (kk : AW G p l e R s m args below meth c nL Q (pc + 2) lv (.ref (G.1 + aN h) :: st) (hNew h 14 n.toNatClampNeg)) : AW G p l e R s m args below meth c nL Q pc lv (.int n :: st) h :=
  r_newarr (atype := .long) C 14 2 hw (fun cA q => Option.some.inj (q.symm.trans (C.2.2.2.2.2.1.2 2 _ rfl).2)) (fun N => by rw [EE_J hNew_K, hNew_L, hNew_J]; rfl) rfl (by decide) hn hroom hd kk
theorem r_newS (C : Cx G p R s m args meth c nL cc own n0 s0 fr lo) {n : Int32} (hw1 : Cond.classLink own index "RaftTown$Scene" ∈ gt) (hw2 : Cond.arrayOver (.object "RaftTown$Scene") ∈ gt) (hn : ¬ n < 0) (hroom : aN h < 601024 ∧ aS h + n.toNatClampNeg ≤ 7293034) (hd : decode cc pc = .ok (.anewarray index, 3))
    (kk : AW G p l e R s m args below meth c nL Q (pc + 3) lv (.ref (G.1 + aN h) :: st) (hNew h 16 n.toNatClampNeg)) : AW G p l e R s m args below meth c nL Q pc lv (.int n :: st) h := by
  intro H locs cells slots ls hR hlo hl
  refine W_tight fun t1 t2 => ?_
  have hts := C.2.2.2.2.1
  obtain ⟨d1, d2, d3, d4, d5, d6, -, -⟩ := C.cells hR t1 t2
  refine W.anew C.1 C.2.1 C.2.2.2.1 (hts _ hw1) (hts _ hw2) rfl hd rfl hn (by omega) (by omega) (by omega) fun cA kA comp g1 g2 g3 g4 => ?_
  obtain ⟨kA', comp', -, -, -, k4⟩ := (C.2.2.2.2.2.1.2 4 _ rfl).2
  have e0 : H.size = G.1 + aN h := hR.2.1
  have hA : cA = G.2.2.2 16 := Option.some.inj (g1.symm.trans k4)
  have e1 : (H.push { cls := cA, slots := Array.replicate n.toNatClampNeg .null, vm := .none })[H.size]? = some { cls := cA, slots := Array.replicate n.toNatClampNeg .null, vm := .none } := by simp
  have hrep : Rep G (hNew h 16 n.toNatClampNeg) (H.push { cls := cA, slots := Array.replicate n.toNatClampNeg .null, vm := .none }) := by
    refine hR.grow (by simp) (fun q hq => by rw [Array.getElem?_push, if_neg (by omega)]) e1 (by simp) ?_ hroom
    rw [EE_P hNew_K, hNew_L, hNew_P]
    show (H.push _)[G.1 + aN h]? = some (vp_cell _ _)
    rw [← e0, e1, vp_cell_q, hA]
    congr 1
    unfold arrV
    congr 1
    apply Array.ext
    · simp
    · intro i h1 h2
      simp [va_rf]
  rw [e0]
  exact kk _ locs _ _ ls hrep hlo hl
/-! contracts -/
def QcP (G : GG) (post : AH → Option Value → Prop) : Array Value → State → Outcome → State → Prop := fun _ _ o t => ∃ (h' : AH) (v : Option Value), o = .returned v ∧ Rep G h' t.heap ∧ post h' v
/-- the method y, called in the heap h with these values: it returns, and 'post' holds of the heap and the value -/
def MC (G : GG) (y : MethodName) (cc : ByteArray) (nL : Nat) (ret : Option FieldType) (fr lo : Nat) (h : AH) (av : List Value) (post : AH → Option Value → Prop) : Prop :=
  ∀ l : Launch, Met l y (Cond.code y cc nL ret :: gt) { frames := fr, cells := 601024 - aN h, slots := 7293034 - aS h, locals := lo } (va_Pc av (fun U => Rep G h U.heap ∧ va_K G.2.2.1 vwCl (tyA G) U ∧ NW U)) (QcP G post) (601024 - aN h) (7293034 - aS h) (fun q => G.1 ≤ q)
abbrev QM (G : GG) (post : AH → Option Value → Prop) (args : Array Value) (s : State) (below : List Frame) (n0 s0 : Nat) : State → Prop := MQ below (QcP G post) args s (601024 - n0) (7293034 - s0) (fun q => G.1 ≤ q)
theorem MC.of {y : MethodName} {ret : Option FieldType} {av : List Value} {post : AH → Option Value → Prop} (hy : plainName y.cls = true) (hln : (lg_sl av).length ≤ nL) (hlv : lv_args 0 av = lv)
    (body : ∀ (p : Program) (l : Launch) (e : Env) (R : Room) (s : State) (m : MethodId) (args : Array Value) (below : List Frame) (meth : Method) (c : Code), Cx G p R s m args meth c nL cc y.cls (aN h) (aS h) fr lo → meth.sig.returnType = ret → meth.name = y.name →
      AW G p l e R s m args below meth c nL (QM G post args s below (aN h) (aS h)) 0 lv [] h) : MC G y cc nL ret fr lo h av post := by
  intro l
  refine Met.ofW (cc := cc) (maxL := nL) (ret := ret) hy rfl ?_
  intro p e s m args below meth c s₁ B hml hv
  obtain ⟨rfl, hR, hK, hN⟩ := hv
  have hts := atoms_spec (ws := Cond.code y cc nL ret :: gt) B.pre
  have hown : s.vm.findClass y.cls = some m.cls := findClass_of_methodNamed B.named
  have hC : Cx G p { frames := fr, cells := 601024 - aN h, slots := 7293034 - aS h, locals := lo } s m av.toArray meth c nL cc y.cls (aN h) (aS h) fr lo :=
    ⟨B.exec, B.bytes, hml, hown, fun w hw => hts w (List.mem_cons_of_mem _ hw), hK, hR.2.1, hR.2.2.1, rfl, B.notSynchronized, hN⟩
  have hl := lv_entry av hln
  rw [hlv] at hl
  rw [lg_entry_eq]
  exact body p l e _ s m _ below meth c hC B.returns (name_of_methodNamed B.named B.method).1 s.heap [] 0 0 _ hR (fun q hq => by cases hq) hl
theorem W_fit (C : Cx G p R s m args meth c nL cc own n0 s0 fr lo) {H : Heap} {locs : List Loc} {cells slots : Nat} {g : JFrame} (hR : Rep G h H) (k : W p l e R s m args below meth c H locs (601024 - n0) (7293034 - s0) Q g) : W p l e R s m args below meth c H locs cells slots Q g := by
  refine W_tight fun t1 t2 => ?_
  obtain ⟨d1, d2, d3, d4, -, -, -, -⟩ := C.cells hR t1 t2
  obtain ⟨-, -, -, -, -, r6, r7⟩ := hR
  exact W.widen (by omega) (by omega) k
def pI (post : AH → Int32 → Prop) : AH → Option Value → Prop := fun h v => ∃ r, v = some (.int r) ∧ post h r
def pJ (post : AH → Int64 → Prop) : AH → Option Value → Prop := fun h v => ∃ r, v = some (.long r) ∧ post h r
def pP (G : GG) (post : AH → Nat → Prop) : AH → Option Value → Prop := fun h v => ∃ r, v = some (.ref (G.1 + r)) ∧ post h r
def pV (post : AH → Prop) : AH → Option Value → Prop := fun h v => v = none ∧ post h
theorem r_iret (C : Cx G p R s m args meth c nL cc own n0 s0 fr lo) {post : AH → Int32 → Prop} {x : Int32} (hr : meth.sig.returnType = some .int) (hd : decode cc pc = .ok (.ireturn, 1)) (hp : post h x) : AW G p l e R s m args below meth c nL (QM G (pI post) args s below n0 s0) pc lv [.int x] h :=
  fun H locs cells slots ls hR hlo hl => W_fit C hR (W.iret C.1 C.2.1 hr (fun t ht _ => ⟨h, _, rfl, by rw [ht]; exact hR, x, rfl, hp⟩) hlo hd C.2.2.2.2.2.2.2.2.2.1)
theorem r_zret (C : Cx G p R s m args meth c nL cc own n0 s0 fr lo) {post : AH → Int32 → Prop} {x : Int32} (hr : meth.sig.returnType = some .boolean) (hd : decode cc pc = .ok (.ireturn, 1)) (hz : x = 0 ∨ x = 1) (hp : post h x) : AW G p l e R s m args below meth c nL (QM G (pI post) args s below n0 s0) pc lv [.int x] h :=
  fun H locs cells slots ls hR hlo hl => W_fit C hR (W.zret C.1 C.2.1 hr (bool_nar hz).1 (fun t ht _ => ⟨h, _, rfl, by rw [ht]; exact hR, x, rfl, hp⟩) hlo hd C.2.2.2.2.2.2.2.2.2.1)
theorem r_lret (C : Cx G p R s m args meth c nL cc own n0 s0 fr lo) {post : AH → Int64 → Prop} {x : Int64} (hr : meth.sig.returnType = some .long) (hd : decode cc pc = .ok (.lreturn, 1)) (hp : post h x) : AW G p l e R s m args below meth c nL (QM G (pJ post) args s below n0 s0) pc lv [.long x] h :=
  fun H locs cells slots ls hR hlo hl => W_fit C hR (W.lret C.1 C.2.1 hr (fun t ht _ => ⟨h, _, rfl, by rw [ht]; exact hR, x, rfl, hp⟩) hlo hd C.2.2.2.2.2.2.2.2.2.1)
theorem r_aret (C : Cx G p R s m args meth c nL cc own n0 s0 fr lo) {post : AH → Nat → Prop} {x : Nat} {rt : FieldType} (hr : meth.sig.returnType = some rt) (hrt : (∃ n, rt = .object n) ∨ ∃ t, rt = .array t) (hd : decode cc pc = .ok (.areturn, 1)) (hp : post h x) : AW G p l e R s m args below meth c nL (QM G (pP G post) args s below n0 s0) pc lv [.ref (G.1 + x)] h :=
  fun H locs cells slots ls hR hlo hl => W_fit C hR (W.aret C.1 C.2.1 hr hrt (Or.inr ⟨_, rfl⟩) (fun t ht _ => ⟨h, _, rfl, by rw [ht]; exact hR, x, rfl, hp⟩) hlo hd C.2.2.2.2.2.2.2.2.2.1)
theorem r_vret (C : Cx G p R s m args meth c nL cc own n0 s0 fr lo) {post : AH → Prop} (hr : meth.sig.returnType = none) (hd : decode cc pc = .ok (.return_, 1)) (hp : post h) : AW G p l e R s m args below meth c nL (QM G (pV post) args s below n0 s0) pc lv [] h :=
  fun H locs cells slots ls hR hlo hl => W_fit C hR (W.vret C.1 C.2.1 hr (fun t ht _ => ⟨h, _, rfl, by rw [ht]; exact hR, rfl, hp⟩) hlo hd C.2.2.2.2.2.2.2.2.2.1)
end RN
