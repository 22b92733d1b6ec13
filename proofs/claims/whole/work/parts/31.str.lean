/-! one String constant: where it lies, what it holds; statics of the JDK -/
def stx : String := "row tide raft pole rope moor beside apart sun lies square north east south west slide turn wait "
def stb : List Int32 := [114, 111, 119, 32, 116, 105, 100, 101, 32, 114, 97, 102, 116, 32, 112, 111, 108, 101, 32, 114, 111, 112, 101, 32, 109, 111, 111, 114, 32, 98, 101, 115, 105, 100, 101, 32, 97, 112, 97, 114, 116, 32, 115, 117, 110, 32, 108, 105, 101, 115, 32, 115, 113, 117, 97, 114, 101, 32, 110, 111, 114, 116, 104, 32, 101, 97, 115, 116, 32, 115, 111, 117, 116, 104, 32, 119, 101, 115, 116, 32, 115, 108, 105, 100, 101, 32, 116, 117, 114, 110, 32, 119, 97, 105, 116, 32]
def SX (G : GG) (U : State) : Prop :=
  vk_R "RaftTown$Text" 19 stx (G.2.2.2 20) U ∧ va_O "java/lang/String" (G.2.2.2 20) (fun q => G.1 ≤ q) U G.2.1 ∧ va_OF "java/lang/String" "coder" "B" (.int 0) (G.2.2.2 20) (fun q => G.1 ≤ q) U G.2.1 ∧
  va_OF "java/lang/String" "value" "[B" (.ref (G.2.2.2 21)) (G.2.2.2 20) (fun q => G.1 ≤ q) U G.2.1 ∧ va_T .byte (G.2.2.2 21) 96 (fun j => .int (stb.getD j 0)) (fun q => G.1 ≤ q) U G.2.1 ∧
  va_Z "java/lang/String" "COMPACT_STRINGS" "Z" (.int 1) (fun q => G.1 ≤ q) U G.2.1 ∧ va_Zq "jdk/internal/util/Preconditions" "SIOOBE_FORMATTER" "Ljava/util/function/BiFunction;" (fun q => G.1 ≤ q) U G.2.1 ∧ va_AO "RaftTown$Scene" U
theorem SX.warm {G : GG} {s U : State} (hW : s.WarmedH U.vm) (h : SX G s) : SX G U := by
  obtain ⟨h1, h2, h3, h4, h5, h6, h7, h8⟩ := h
  exact ⟨h1.warm hW, h2.moved hW.alike, h3.moved hW.alike, h4.moved hW.alike, h5.moved hW.alike, h6.moved hW.alike, h7.moved hW.alike, va_AO.moved hW.alike h8⟩
theorem SX.same {G : GG} {s U : State} (hv : s.vm = U.vm) (h : SX G s) : SX G U := h.warm (by rw [← hv]; exact State.WarmedH.refl s)
/-- a contract in a state of which SX is known -/
def MS (G : GG) (y : MethodName) (cc : ByteArray) (nL : Nat) (ret : Option FieldType) (fr lo : Nat) (h : AH) (av : List Value) (post : AH → Option Value → Prop) : Prop :=
  ∀ l : Launch, Met l y (Cond.code y cc nL ret :: gt) { frames := fr, cells := 601024 - aN h, slots := 7293034 - aS h, locals := lo } (va_Pc av (fun U => Rep G h U.heap ∧ va_K G.2.2.1 vwCl (tyA G) U ∧ NW U ∧ SX G U)) (QcP G post) (601024 - aN h) (7293034 - aS h) (fun q => G.1 ≤ q)
section MSs
variable {G : GG} {p : Program} {l : Launch} {e : Env} {R : Room} {s : State} {m : MethodId} {args : Array Value} {below : List Frame} {meth : Method} {c : Code} {nL : Nat} {Q : State → Prop} {cc : ByteArray} {own : String} {n0 s0 fr lo : Nat}
  {pc : Nat} {lv : List (Nat × Value)} {st : List Value} {h h' : AH} {a b k ci index : Nat}
  {y x : MethodName} {cc' : ByteArray} {nL' fr' lo' n : Nat} {ret : Option FieldType} {As rest : List Value} {post : AH → Option Value → Prop}
theorem MS.of {av : List Value} (hy : plainName y.cls = true) (hln : (lg_sl av).length ≤ nL) (hlv : lv_args 0 av = lv)
    (body : ∀ (p : Program) (l : Launch) (e : Env) (R : Room) (s : State) (m : MethodId) (args : Array Value) (below : List Frame) (meth : Method) (c : Code), Cx G p R s m args meth c nL cc y.cls (aN h) (aS h) fr lo → SX G s → meth.sig.returnType = ret → meth.name = y.name →
      AW G p l e R s m args below meth c nL (QM G post args s below (aN h) (aS h)) 0 lv [] h) : MS G y cc nL ret fr lo h av post := by
  intro l
  refine Met.ofW (cc := cc) (maxL := nL) (ret := ret) hy rfl ?_
  intro p e s m args below meth c s₁ B hml hv
  obtain ⟨rfl, hR, hK, hN, hE⟩ := hv
  have hts := atoms_spec (ws := Cond.code y cc nL ret :: gt) B.pre
  have hown : s.vm.findClass y.cls = some m.cls := findClass_of_methodNamed B.named
  have hC : Cx G p { frames := fr, cells := 601024 - aN h, slots := 7293034 - aS h, locals := lo } s m av.toArray meth c nL cc y.cls (aN h) (aS h) fr lo :=
    ⟨B.exec, B.bytes, hml, hown, fun w hw => hts w (List.mem_cons_of_mem _ hw), hK, hR.2.1, hR.2.2.1, rfl, B.notSynchronized, hN⟩
  have hl := lv_entry av hln
  rw [hlv] at hl
  rw [lg_entry_eq]
  exact body p l e _ s m _ below meth c hC hE B.returns (name_of_methodNamed B.named B.method).1 s.heap [] 0 0 _ hR (fun q hq => by cases hq) hl
theorem blindS {av : List Value} : FrameBlind (va_Pc av (fun U => Rep G h U.heap ∧ va_K G.2.2.1 vwCl (tyA G) U ∧ NW U ∧ SX G U)) :=
  fun a U g mk q => ⟨q.1, q.2.1, va_K.moved (u := U) (U := U.calling g mk a) (Vm.Alike.refl U.vm) q.2.2.1, NW.same (s := U) (U := U.calling g mk a) rfl q.2.2.2.1, SX.same (s := U) (U := U.calling g mk a) rfl q.2.2.2.2⟩
theorem Cx.preS (C : Cx G p R s m args meth c nL cc own n0 s0 fr lo) (hE : SX G s) {H : Heap} {av : List Value} (hR : Rep G h H) : ∀ U : State, U.heap = H → s.WarmedH U.vm → va_Pc av (fun U => Rep G h U.heap ∧ va_K G.2.2.1 vwCl (tyA G) U ∧ NW U ∧ SX G U) av.toArray U :=
  fun U hU hW => ⟨rfl, by rw [hU]; exact hR, va_K.moved hW.alike C.2.2.2.2.2.1, NW.warm hW C.2.2.2.2.2.2.2.2.2.2, hE.warm hW⟩
theorem s_callS (C : Cx G p R s m args meth c nL cc own n0 s0 fr lo) (hE : SX G s) (hM : MS G y cc' nL' ret fr' lo' h As post) (Y : YL y cc' nL' ret n) (hl : Cond.methodLink own index y ∈ gt) (hin : Cond.static y ∈ gt)
    (hfr : fr' + 1 ≤ fr ∧ 8 + (nL' + 11) + lo' ≤ lo) (hn : As.length = n) (hW : (rest.map fun v => v.category).sum ≤ 8)
    (hd : decode cc pc = .ok (.invokestatic index, 3)) {st0 : List Value} (hst : st0 = As.reverse ++ rest) (kk : ∀ h' v, post h' v → AW G p l e R s m args below meth c nL Q (pc + 3) lv (v.toList ++ rest) h') : AW G p l e R s m args below meth c nL Q pc lv st0 h := by
  have hts := C.2.2.2.2.1
  refine aw_run (aa := As.toArray) (mc := 601024 - aN h) (ms := 7293034 - aS h) (rest := rest) (fun H locs ls hR hlv t1 t2 => ?_) kk
  exact va_runS (Ts := gt) ⟨C.1, C.2.1, C.2.2.1, C.2.2.2.1, hts⟩ (hM l) ⟨C.callB Y hl hfr, hts _ hin⟩ ⟨blindS, C.preS hE hR⟩ rfl hn hlv.1 hst (lv_room hW) hd (C.room hR t1 t2)
theorem s_callI (C : Cx G p R s m args meth c nL cc own n0 s0 fr lo) (hE : SX G s) (hM : MS G y cc' nL' none fr' lo' h (.ref (G.1 + b) :: As) post) (Y : YL y cc' nL' none n) (hl : Cond.methodLink own index y ∈ gt) (hin : Cond.instanceMethod y ∈ gt) (hy1 : y.name = "<init>")
    (hfr : fr' + 1 ≤ fr ∧ 8 + (nL' + 11) + lo' ≤ lo) (hn : As.length = n) (hW : (rest.map fun v => v.category).sum ≤ 8)
    (hd : decode cc pc = .ok (.invokespecial index, 3)) {st0 : List Value} (hst : st0 = As.reverse ++ .ref (G.1 + b) :: rest) (kk : ∀ h' v, post h' v → AW G p l e R s m args below meth c nL Q (pc + 3) lv (v.toList ++ rest) h') : AW G p l e R s m args below meth c nL Q pc lv st0 h := by
  have hts := C.2.2.2.2.1
  refine aw_run (aa := (Value.ref (G.1 + b) :: As).toArray) (mc := 601024 - aN h) (ms := 7293034 - aS h) (rest := rest) (fun H locs ls hR hlv t1 t2 => ?_) kk
  exact va_runI (Ts := gt) ⟨C.1, C.2.1, C.2.2.1, C.2.2.2.1, hts⟩ (hM l) ⟨C.callB Y hl hfr, hy1, hts _ hin⟩ ⟨blindS, C.preS hE hR⟩ rfl hn hlv.1 hst (lv_room hW) hd (C.room hR t1 t2)
theorem s_callIN (C : Cx G p R s m args meth c nL cc own n0 s0 fr lo) (hE : SX G s) {host : String} (hM : MS G y cc' nL' none fr' lo' h (.ref (G.1 + b) :: As) post) (Y : YL y cc' nL' none n) (hl : Cond.methodLinkNest own index y host ∈ nestL) (hin : Cond.instanceMethod y ∈ gt) (hy1 : y.name = "<init>")
    (hfr : fr' + 1 ≤ fr ∧ 8 + (nL' + 11) + lo' ≤ lo) (hn : As.length = n) (hW : (rest.map fun v => v.category).sum ≤ 8)
    (hd : decode cc pc = .ok (.invokespecial index, 3)) {st0 : List Value} (hst : st0 = As.reverse ++ .ref (G.1 + b) :: rest) (kk : ∀ h' v, post h' v → AW G p l e R s m args below meth c nL Q (pc + 3) lv (v.toList ++ rest) h') : AW G p l e R s m args below meth c nL Q pc lv st0 h := by
  have hts := C.2.2.2.2.1
  refine aw_run (aa := (Value.ref (G.1 + b) :: As).toArray) (mc := 601024 - aN h) (ms := 7293034 - aS h) (rest := rest) (fun H locs ls hR hlv t1 t2 => ?_) kk
  exact va_runIN (Ts := gt) ⟨C.1, C.2.1, C.2.2.1, C.2.2.2.1, hts⟩ (hM l) ⟨C.callN Y hl hfr, hy1, hts _ hin⟩ ⟨blindS, C.preS hE hR⟩ rfl hn hlv.1 hst (lv_room hW) hd (C.room hR t1 t2)
/-- a call on the String constant -/
theorem s_callV (C : Cx G p R s m args meth c nL cc own n0 s0 fr lo) (hE : SX G s) (hM : MS G y cc' nL' ret fr' lo' h (.ref (G.2.2.2 20) :: As) post) (Y : YL y cc' nL' ret n) (hl : Cond.methodLink own index y ∈ gt) (hin : Cond.instanceMethod y ∈ gt)
    (hsel : Cond.selects "java/lang/String" y y ∈ gt) (hfr : fr' + 1 ≤ fr ∧ 8 + (nL' + 11) + lo' ≤ lo) (hn : As.length = n) (hW : (rest.map fun v => v.category).sum ≤ 8)
    (hd : decode cc pc = .ok (.invokevirtual index, 3)) {st0 : List Value} (hst : st0 = As.reverse ++ .ref (G.2.2.2 20) :: rest) (kk : ∀ h' v, post h' v → AW G p l e R s m args below meth c nL Q (pc + 3) lv (v.toList ++ rest) h') : AW G p l e R s m args below meth c nL Q pc lv st0 h := by
  have hts := C.2.2.2.2.1
  refine aw_run (aa := (Value.ref (G.2.2.2 20) :: As).toArray) (mc := 601024 - aN h) (ms := 7293034 - aS h) (rest := rest) (fun H locs ls hR hlv t1 t2 => ?_) kk
  have hrec : ∃ cell : Cell, H[G.2.2.2 20]? = some cell ∧ cell.vm.isStatics = false ∧ s.vm.findClass "java/lang/String" = some cell.cls := by
    obtain ⟨cell, g1, g2, g3, g4⟩ := hE.2.1
    exact ⟨cell, by rw [hR.2.2.2.2.1 _ (Nat.not_le.mp g4)]; exact g1, g2, g3⟩
  exact va_runV (Ts := gt) ⟨C.1, C.2.1, C.2.2.1, C.2.2.2.1, hts⟩ (hM l) ⟨C.callB Y hl hfr, hts _ hin, hts _ hsel⟩ ⟨blindS, hrec, C.preS hE hR⟩ rfl hn hlv.1 hst (lv_room hW) hd (C.room hR t1 t2)
theorem s_ldc (C : Cx G p R s m args meth c nL cc "RaftTown$Text" n0 s0 fr lo) (hE : SX G s) (hd : decode cc pc = .ok (.ldc 19, 2)) (kk : AW G p l e R s m args below meth c nL Q (pc + 2) lv (.ref (G.2.2.2 20) :: st) h) : AW G p l e R s m args below meth c nL Q pc lv st h :=
  fun H locs cells slots ls hR hlo hl => va_ldcS C.1 C.2.1 C.2.2.2.1 hE.1 hd (kk H locs cells slots ls hR hlo hl)
theorem s_getf (C : Cx G p R s m args meth c nL cc own n0 s0 fr lo) {o nm d ref : String} {v : Value} {q : Nat} (hO : va_OF o nm d v q (fun q => G.1 ≤ q) s G.2.1) (hl : Cond.fieldLink own index ref nm d ∈ gt) (hs : ref = o) (hd : decode cc pc = .ok (.getfield index, 3))
    (kk : AW G p l e R s m args below meth c nL Q (pc + 3) lv (v :: st) h) : AW G p l e R s m args below meth c nL Q pc lv (.ref q :: st) h := by
  intro H locs cells slots ls hR hlo hlv
  obtain ⟨cf, kk9, fi, f, cell, h1, h2, h3, h4, h5, h6⟩ := hO
  subst hs
  exact W.getf C.1 C.2.1 C.2.2.2.1 (C.2.2.2.2.1 _ hl) h1 h2 (by rw [hR.2.2.2.2.1 _ (Nat.not_le.mp h6)]; exact h3) h4 (v := v) h5 rfl rfl hd (kk H locs cells slots ls hR hlo hlv)
theorem s_gets (C : Cx G p R s m args meth c nL cc own n0 s0 fr lo) {o nm d : String} {v : Value} (hZ : va_Z o nm d v (fun q => G.1 ≤ q) s G.2.1) (hl : Cond.fieldLink own index o nm d ∈ gt) (hd : decode cc pc = .ok (.getstatic index, 3))
    (kk : AW G p l e R s m args below meth c nL Q (pc + 3) lv (v :: st) h) : AW G p l e R s m args below meth c nL Q pc lv st h := by
  intro H locs cells slots ls hR hlo hlv
  obtain ⟨cf, kf, fi, f, a, cell, h1, h2, h3, h4, h5, h6, h7, h8⟩ := hZ
  exact W.gets C.1 C.2.1 C.2.2.2.1 (C.2.2.2.2.1 _ hl) h1 h2 h3 h4 (by rw [hR.2.2.2.2.1 _ (Nat.not_le.mp h8)]; exact h5) (fun e => by rw [e] at h6; cases h6) h7 rfl hd (kk H locs cells slots ls hR hlo hlv)
theorem s_len (C : Cx G p R s m args meth c nL cc own n0 s0 fr lo) {t N : Nat} {f : Nat → Value} {ty : FieldType} (hT : va_T ty t N f (fun q => G.1 ≤ q) s G.2.1) (hd : decode cc pc = .ok (.arraylength, 1))
    (kk : AW G p l e R s m args below meth c nL Q (pc + 1) lv (.int (nI N) :: st) h) : AW G p l e R s m args below meth c nL Q pc lv (.ref t :: st) h := by
  intro H locs cells slots ls hR hlo hlv
  obtain ⟨cell, h1, h2, h3, h4, h5, h6, h7⟩ := hT
  exact W.alen (n := nI N) C.1 C.2.1 (by rw [hR.2.2.2.2.1 _ (Nat.not_le.mp h7)]; exact h1) h2 h5 rfl rfl hd (kk H locs cells slots ls hR hlo hlv)
theorem s_bald (C : Cx G p R s m args meth c nL cc own n0 s0 fr lo) {t N : Nat} {f : Nat → Value} (hT : va_T .byte t N f (fun q => G.1 ≤ q) s G.2.1) (hN : N < 2 ^ 31) {i : Nat} (hi : i < N) (hd : decode cc pc = .ok (.baload, 1))
    (kk : AW G p l e R s m args below meth c nL Q (pc + 1) lv (f i :: st) h) : AW G p l e R s m args below meth c nL Q pc lv (.int (nI i) :: .ref t :: st) h := by
  intro H locs cells slots ls hR hlo hlv
  obtain ⟨cell, h1, h2, h3, h4, h5, h6, h7⟩ := hT
  have e : (nI i).toNatClampNeg = i := nI_clamp (by omega)
  exact W.bald C.1 C.2.1 (v := f i) (by rw [hR.2.2.2.2.1 _ (Nat.not_le.mp h7)]; exact h1) h2 h3 (by rw [e]; intro q; rcases q with q | q; exact nI_pos (by omega) q; omega) (by rw [e]; exact h6 i hi) rfl rfl hd (kk H locs cells slots ls hR hlo hlv)
theorem s_zret (C : Cx G p R s m args meth c nL cc own n0 s0 fr lo) {pst : AH → Int32 → Prop} {x : Int32} {ty : FieldType} (hr : meth.sig.returnType = some ty) (hd : decode cc pc = .ok (.ireturn, 1)) (hz : narrow ty (.int x) = .int x) (hp : pst h x) : AW G p l e R s m args below meth c nL (QM G (pI pst) args s below n0 s0) pc lv [.int x] h :=
  fun H locs cells slots ls hR hlo hl => W_fit C hR (W.zret C.1 C.2.1 hr hz (fun t ht _ => ⟨h, _, rfl, by rw [ht]; exact hR, x, rfl, hp⟩) hlo hd C.2.2.2.2.2.2.2.2.2.1)
theorem s_aload_nN (C : Cx G p R s m args meth c nL cc own n0 s0 fr lo) {k1 : Fin 4} (hd : decode cc pc = .ok (.aload_n k1, 1)) (j : Nat) (hj : lv[j]? = some ((k1 : Nat), .null)) (k : AW G p l e R s m args below meth c nL Q (pc + 1) lv (.null :: st) h) : AW G p l e R s m args below meth c nL Q pc lv st h :=
  fun H locs cells slots ls hR hlo hl => lv_aload_nN C.1 C.2.1 hd rfl (lv_at hl j hj) (k H locs cells slots ls hR hlo hl)
theorem s_i2c (C : Cx G p R s m args meth c nL cc own n0 s0 fr lo) {x : Int32} (hd : decode cc pc = .ok (.i2c, 1)) (k : AW G p l e R s m args below meth c nL Q (pc + 1) lv (.int ((x.toUInt32 % 65536).toInt32) :: st) h) : AW G p l e R s m args below meth c nL Q pc lv (.int x :: st) h :=
  fun H locs cells slots ls hR hlo hl => lv_i2c C.1 C.2.1 hd rfl (k H locs cells slots ls hR hlo hl)
theorem va_AO_use {C : String} {A : Array Value} {U : State} (h : va_AO C U) : (Cond.arrayOver (.object C)).before A U = true := va_AO.use h
theorem s_newS (C : Cx G p R s m args meth c nL cc own n0 s0 fr lo) {n : Int32} (hw1 : Cond.classLink own index "RaftTown$Scene" ∈ gt) (hE : SX G s) (hn : ¬ n < 0) (hroom : aN h < 601024 ∧ aS h + n.toNatClampNeg ≤ 7293034) (hd : decode cc pc = .ok (.anewarray index, 3))
    (kk : AW G p l e R s m args below meth c nL Q (pc + 3) lv (.ref (G.1 + aN h) :: st) (hNew h 16 n.toNatClampNeg)) : AW G p l e R s m args below meth c nL Q pc lv (.int n :: st) h := by
  intro H locs cells slots ls hR hlo hl
  refine W_tight fun t1 t2 => ?_
  have hts := C.2.2.2.2.1
  obtain ⟨d1, d2, d3, d4, d5, d6, -, -⟩ := C.cells hR t1 t2
  refine W.anew C.1 C.2.1 C.2.2.2.1 (hts _ hw1) (va_AO_use hE.2.2.2.2.2.2.2) rfl hd rfl hn (by omega) (by omega) (by omega) fun cA kA comp g1 g2 g3 g4 => ?_
  obtain ⟨kA', comp', -, -, -, k4⟩ := (C.2.2.2.2.2.1.2 4 _ rfl).2
  have e0 : H.size = G.1 + aN h := hR.2.1
  have hA : cA = G.2.2.2 16 := Option.some.inj (g1.symm.trans k4)
  have e1 : (H.push { cls := cA, slots := Array.replicate n.toNatClampNeg .null, vm := .none })[H.size]? = some { cls := cA, slots := Array.replicate n.toNatClampNeg .null, vm := .none } := by simp
  have hrep : Rep G (hNew h 16 n.toNatClampNeg) (H.push { cls := cA, slots := Array.replicate n.toNatClampNeg .null, vm := .none }) := by
    refine hR.grow (by simp) (fun q hq => by rw [Array.getElem?_push, if_neg (by omega)]) e1 (by simp) ?_ hroom
    rw [EE_P hNew_K, hNew_L, hNew_P]
    show (H.push _)[G.1 + aN h]? = some (vp_cell _ _)
    rw [← e0, e1, vp_cell_q, hA]
    congr 1
    unfold arrV
    congr 1
    apply Array.ext
    · simp
    · intro i h1 h2
      simp [va_rf]
  rw [e0]
  exact kk _ locs _ _ ls hrep hlo hl
end MSs
theorem dJ0_length_8abf5_0 : decode cJ0_length_8abf5 0 = .ok (.aload_n 0, 1) := by decide +kernel
theorem dJ0_length_8abf5_1 : decode cJ0_length_8abf5 1 = .ok (.getfield 9, 3) := by decide +kernel
theorem dJ0_length_8abf5_4 : decode cJ0_length_8abf5 4 = .ok (.arraylength, 1) := by decide +kernel
theorem dJ0_length_8abf5_5 : decode cJ0_length_8abf5 5 = .ok (.aload_n 0, 1) := by decide +kernel
theorem dJ0_length_8abf5_6 : decode cJ0_length_8abf5 6 = .ok (.invokevirtual 335, 3) := by decide +kernel
theorem dJ0_length_8abf5_9 : decode cJ0_length_8abf5 9 = .ok (.ishr, 1) := by decide +kernel
theorem dJ0_length_8abf5_10 : decode cJ0_length_8abf5 10 = .ok (.ireturn, 1) := by decide +kernel
theorem dJ0_charAt_5068e_0 : decode cJ0_charAt_5068e 0 = .ok (.aload_n 0, 1) := by decide +kernel
theorem dJ0_charAt_5068e_1 : decode cJ0_charAt_5068e 1 = .ok (.invokevirtual 492, 3) := by decide +kernel
theorem dJ0_charAt_5068e_4 : decode cJ0_charAt_5068e 4 = .ok (.ifCond .eq 12, 3) := by decide +kernel
theorem dJ0_charAt_5068e_7 : decode cJ0_charAt_5068e 7 = .ok (.aload_n 0, 1) := by decide +kernel
theorem dJ0_charAt_5068e_8 : decode cJ0_charAt_5068e 8 = .ok (.getfield 9, 3) := by decide +kernel
theorem dJ0_charAt_5068e_11 : decode cJ0_charAt_5068e 11 = .ok (.iload_n 1, 1) := by decide +kernel
theorem dJ0_charAt_5068e_12 : decode cJ0_charAt_5068e 12 = .ok (.invokestatic 495, 3) := by decide +kernel
theorem dJ0_charAt_5068e_15 : decode cJ0_charAt_5068e 15 = .ok (.ireturn, 1) := by decide +kernel
theorem dJ0_charAt_5068e_16 : decode cJ0_charAt_5068e 16 = .ok (.aload_n 0, 1) := by decide +kernel
theorem dJ0_charAt_5068e_17 : decode cJ0_charAt_5068e 17 = .ok (.getfield 9, 3) := by decide +kernel
theorem dJ0_charAt_5068e_20 : decode cJ0_charAt_5068e 20 = .ok (.iload_n 1, 1) := by decide +kernel
theorem dJ0_charAt_5068e_21 : decode cJ0_charAt_5068e 21 = .ok (.invokestatic 498, 3) := by decide +kernel
theorem dJ0_charAt_5068e_24 : decode cJ0_charAt_5068e 24 = .ok (.ireturn, 1) := by decide +kernel
theorem dJ0_coder_7d493_0 : decode cJ0_coder_7d493 0 = .ok (.getstatic 38, 3) := by decide +kernel
theorem dJ0_coder_7d493_3 : decode cJ0_coder_7d493 3 = .ok (.ifCond .eq 10, 3) := by decide +kernel
theorem dJ0_coder_7d493_6 : decode cJ0_coder_7d493 6 = .ok (.aload_n 0, 1) := by decide +kernel
theorem dJ0_coder_7d493_7 : decode cJ0_coder_7d493 7 = .ok (.getfield 15, 3) := by decide +kernel
theorem dJ0_coder_7d493_10 : decode cJ0_coder_7d493 10 = .ok (.goto 4, 3) := by decide +kernel
theorem dJ0_coder_7d493_13 : decode cJ0_coder_7d493 13 = .ok (.iconst 1, 1) := by decide +kernel
theorem dJ0_coder_7d493_14 : decode cJ0_coder_7d493 14 = .ok (.ireturn, 1) := by decide +kernel
theorem dJ0_isLatin1_aae02_0 : decode cJ0_isLatin1_aae02 0 = .ok (.getstatic 38, 3) := by decide +kernel
theorem dJ0_isLatin1_aae02_3 : decode cJ0_isLatin1_aae02 3 = .ok (.ifCond .eq 14, 3) := by decide +kernel
theorem dJ0_isLatin1_aae02_6 : decode cJ0_isLatin1_aae02 6 = .ok (.aload_n 0, 1) := by decide +kernel
theorem dJ0_isLatin1_aae02_7 : decode cJ0_isLatin1_aae02 7 = .ok (.getfield 15, 3) := by decide +kernel
theorem dJ0_isLatin1_aae02_10 : decode cJ0_isLatin1_aae02 10 = .ok (.ifCond .ne 7, 3) := by decide +kernel
theorem dJ0_isLatin1_aae02_13 : decode cJ0_isLatin1_aae02 13 = .ok (.iconst 1, 1) := by decide +kernel
theorem dJ0_isLatin1_aae02_14 : decode cJ0_isLatin1_aae02 14 = .ok (.goto 4, 3) := by decide +kernel
theorem dJ0_isLatin1_aae02_17 : decode cJ0_isLatin1_aae02 17 = .ok (.iconst 0, 1) := by decide +kernel
theorem dJ0_isLatin1_aae02_18 : decode cJ0_isLatin1_aae02 18 = .ok (.ireturn, 1) := by decide +kernel
theorem dJ0_checkIndex_df160_0 : decode cJ0_checkIndex_df160 0 = .ok (.iload_n 0, 1) := by decide +kernel
theorem dJ0_checkIndex_df160_1 : decode cJ0_checkIndex_df160 1 = .ok (.iload_n 1, 1) := by decide +kernel
theorem dJ0_checkIndex_df160_2 : decode cJ0_checkIndex_df160 2 = .ok (.getstatic 1053, 3) := by decide +kernel
theorem dJ0_checkIndex_df160_5 : decode cJ0_checkIndex_df160 5 = .ok (.invokestatic 1059, 3) := by decide +kernel
theorem dJ0_checkIndex_df160_8 : decode cJ0_checkIndex_df160 8 = .ok (.pop, 1) := by decide +kernel
theorem dJ0_checkIndex_df160_9 : decode cJ0_checkIndex_df160 9 = .ok (.return_, 1) := by decide +kernel
theorem dJ1_charAt_3b067_0 : decode cJ1_charAt_3b067 0 = .ok (.iload_n 1, 1) := by decide +kernel
theorem dJ1_charAt_3b067_1 : decode cJ1_charAt_3b067 1 = .ok (.aload_n 0, 1) := by decide +kernel
theorem dJ1_charAt_3b067_2 : decode cJ1_charAt_3b067 2 = .ok (.arraylength, 1) := by decide +kernel
theorem dJ1_charAt_3b067_3 : decode cJ1_charAt_3b067 3 = .ok (.invokestatic 9, 3) := by decide +kernel
theorem dJ1_charAt_3b067_6 : decode cJ1_charAt_3b067 6 = .ok (.aload_n 0, 1) := by decide +kernel
theorem dJ1_charAt_3b067_7 : decode cJ1_charAt_3b067 7 = .ok (.iload_n 1, 1) := by decide +kernel
theorem dJ1_charAt_3b067_8 : decode cJ1_charAt_3b067 8 = .ok (.baload, 1) := by decide +kernel
theorem dJ1_charAt_3b067_9 : decode cJ1_charAt_3b067 9 = .ok (.sipush 255, 3) := by decide +kernel
theorem dJ1_charAt_3b067_12 : decode cJ1_charAt_3b067 12 = .ok (.iand, 1) := by decide +kernel
theorem dJ1_charAt_3b067_13 : decode cJ1_charAt_3b067 13 = .ok (.i2c, 1) := by decide +kernel
theorem dJ1_charAt_3b067_14 : decode cJ1_charAt_3b067 14 = .ok (.ireturn, 1) := by decide +kernel
theorem dJ3_checkIndex_8e157_0 : decode cJ3_checkIndex_8e157 0 = .ok (.iload_n 0, 1) := by decide +kernel
theorem dJ3_checkIndex_8e157_1 : decode cJ3_checkIndex_8e157 1 = .ok (.ifCond .lt 8, 3) := by decide +kernel
theorem dJ3_checkIndex_8e157_4 : decode cJ3_checkIndex_8e157 4 = .ok (.iload_n 0, 1) := by decide +kernel
theorem dJ3_checkIndex_8e157_5 : decode cJ3_checkIndex_8e157 5 = .ok (.iload_n 1, 1) := by decide +kernel
theorem dJ3_checkIndex_8e157_6 : decode cJ3_checkIndex_8e157 6 = .ok (.if_icmp .lt 10, 3) := by decide +kernel
theorem dJ3_checkIndex_8e157_9 : decode cJ3_checkIndex_8e157 9 = .ok (.aload_n 2, 1) := by decide +kernel
theorem dJ3_checkIndex_8e157_10 : decode cJ3_checkIndex_8e157 10 = .ok (.iload_n 0, 1) := by decide +kernel
theorem dJ3_checkIndex_8e157_11 : decode cJ3_checkIndex_8e157 11 = .ok (.iload_n 1, 1) := by decide +kernel
theorem dJ3_checkIndex_8e157_12 : decode cJ3_checkIndex_8e157 12 = .ok (.invokestatic 95, 3) := by decide +kernel
theorem dJ3_checkIndex_8e157_15 : decode cJ3_checkIndex_8e157 15 = .ok (.athrow, 1) := by decide +kernel
theorem dJ3_checkIndex_8e157_16 : decode cJ3_checkIndex_8e157 16 = .ok (.iload_n 0, 1) := by decide +kernel
theorem dJ3_checkIndex_8e157_17 : decode cJ3_checkIndex_8e157 17 = .ok (.ireturn, 1) := by decide +kernel
theorem yl_J0_length_8abf5 : YL yJ0_length_8abf5 cJ0_length_8abf5 1 (some .int) 0 := ⟨(gm1 (List.mem_of_getElem? (i := 47) rfl) rfl), (gm1 (List.mem_of_getElem? (i := 4) rfl) rfl), by decide, by decide, by decide +kernel⟩
theorem yl_J0_charAt_5068e : YL yJ0_charAt_5068e cJ0_charAt_5068e 2 (some .char) 1 := ⟨(gm1 (List.mem_of_getElem? (i := 57) rfl) rfl), (gm1 (List.mem_of_getElem? (i := 4) rfl) rfl), by decide, by decide, by decide +kernel⟩
theorem yl_J0_coder_7d493 : YL yJ0_coder_7d493 cJ0_coder_7d493 1 (some .byte) 0 := ⟨(gm1 (List.mem_of_getElem? (i := 51) rfl) rfl), (gm1 (List.mem_of_getElem? (i := 4) rfl) rfl), by decide, by decide, by decide +kernel⟩
theorem yl_J0_isLatin1_aae02 : YL yJ0_isLatin1_aae02 cJ0_isLatin1_aae02 1 (some .boolean) 0 := ⟨(gm1 (List.mem_of_getElem? (i := 61) rfl) rfl), (gm1 (List.mem_of_getElem? (i := 4) rfl) rfl), by decide, by decide, by decide +kernel⟩
theorem yl_J0_checkIndex_df160 : YL yJ0_checkIndex_df160 cJ0_checkIndex_df160 2 none 2 := ⟨(gm1 (List.mem_of_getElem? (i := 67) rfl) rfl), (gm1 (List.mem_of_getElem? (i := 4) rfl) rfl), by decide, by decide, by decide +kernel⟩
theorem yl_J1_charAt_3b067 : YL yJ1_charAt_3b067 cJ1_charAt_3b067 2 (some .char) 2 := ⟨(gm1 (List.mem_of_getElem? (i := 64) rfl) rfl), (gm1 (List.mem_of_getElem? (i := 5) rfl) rfl), by decide, by decide, by decide +kernel⟩
theorem yl_J3_checkIndex_8e157 : YL yJ3_checkIndex_8e157 cJ3_checkIndex_8e157 3 (some .int) 3 := ⟨(gm1 (List.mem_of_getElem? (i := 72) rfl) rfl), (gm1 (List.mem_of_getElem? (i := 6) rfl) rfl), by decide, by decide, by decide +kernel⟩
theorem c_J3_checkIndex_8e157 (G : GG) (h : AH) (i n : Nat) (hi : i < n) (hn : n < 2 ^ 31) (v : Value) (hv : v = .null ∨ ∃ t, v = .ref t) (post : AH → Int32 → Prop) (hw : post h (nI i)) : MS G yJ3_checkIndex_8e157 cJ3_checkIndex_8e157 3 (some .int) 0 0 h [.int (nI i), .int (nI n), v] (pI post) := by
  refine MS.of (lv := [(0, .int (nI i)), (1, .int (nI n)), (2, v)]) (by decide) (by rcases hv with rfl | ⟨t, rfl⟩ <;> exact Nat.le_of_ble_eq_true rfl) (by rcases hv with rfl | ⟨t, rfl⟩ <;> rfl) fun p l e R s m args below meth c C hE hr hnm => ?_
  refine r_iload_n C dJ3_checkIndex_8e157_0 0 rfl ?_
  refine r_if_lt C dJ3_checkIndex_8e157_1 9 (by decide) (fun hc => absurd hc (nI_pos (by omega))) (fun hc => ?_)
  refine r_iload_n C dJ3_checkIndex_8e157_4 0 rfl ?_
  refine r_iload_n C dJ3_checkIndex_8e157_5 1 rfl ?_
  refine r_icmp_lt C dJ3_checkIndex_8e157_6 16 (by decide) (fun hc => ?_) (fun hc => absurd (nI_lt hi hn) hc)
  refine r_iload_n C dJ3_checkIndex_8e157_16 0 rfl ?_
  exact r_iret C hr dJ3_checkIndex_8e157_17 hw
theorem c_J0_checkIndex_df160 (G : GG) (h : AH) (i n : Nat) (hi : i < n) (hn : n < 2 ^ 31) (post : AH → Prop) (hw : post h) : MS G yJ0_checkIndex_df160 cJ0_checkIndex_df160 2 none 1 22 h [.int (nI i), .int (nI n)] (pV post) := by
  refine MS.of (lv := [(0, .int (nI i)), (1, .int (nI n))]) (by decide) (Nat.le_of_ble_eq_true rfl) rfl fun p l e R s m args below meth c C hE hr hnm => ?_
  refine r_iload_n C dJ0_checkIndex_df160_0 0 rfl ?_
  refine r_iload_n C dJ0_checkIndex_df160_1 1 rfl ?_
  have hq := hE.2.2.2.2.2.2.1
  obtain ⟨v, hv, hZ⟩ : ∃ v : Value, (v = .null ∨ ∃ t, v = .ref t) ∧ va_Z "jdk/internal/util/Preconditions" "SIOOBE_FORMATTER" "Ljava/util/function/BiFunction;" v (fun q => G.1 ≤ q) s G.2.1 := by
    rcases hq with q | ⟨t, q⟩
    · exact ⟨_, Or.inl rfl, q⟩
    · exact ⟨_, Or.inr ⟨t, rfl⟩, q⟩
  refine s_gets C hZ (gm1 (List.mem_of_getElem? (i := 68) rfl) rfl) dJ0_checkIndex_df160_2 ?_
  refine s_callS C hE (As := [.int (nI i), .int (nI n), v]) (rest := []) (c_J3_checkIndex_8e157 G h i n hi hn v hv (fun h' _ => post h') hw) yl_J3_checkIndex_8e157 (gm1 (List.mem_of_getElem? (i := 70) rfl) rfl) (gm1 (List.mem_of_getElem? (i := 71) rfl) rfl) (by decide) rfl (Nat.le_of_ble_eq_true rfl) dJ0_checkIndex_df160_5 rfl (kI fun h1 r1 hw => ?_)
  refine r_pop C dJ0_checkIndex_df160_8 rfl ?_
  exact r_vret C hr dJ0_checkIndex_df160_9 hw
theorem c_J1_charAt_3b067 (G : GG) (h : AH) (i : Nat) (hi : i < 96) (post : AH → Int32 → Prop) (hw : post h (stb.getD i 0)) : MS G yJ1_charAt_3b067 cJ1_charAt_3b067 2 (some .char) 2 43 h [.ref (G.2.2.2 21), .int (nI i)] (pI post) := by
  refine MS.of (lv := [(0, .ref (G.2.2.2 21)), (1, .int (nI i))]) (by decide) (Nat.le_of_ble_eq_true rfl) rfl fun p l e R s m args below meth c C hE hr hnm => ?_
  have hT := hE.2.2.2.2.1
  refine r_iload_n C dJ1_charAt_3b067_0 1 rfl ?_
  refine r_aload_n C dJ1_charAt_3b067_1 0 rfl ?_
  refine s_len C hT dJ1_charAt_3b067_2 ?_
  refine s_callS C hE (As := [.int (nI i), .int (nI 96)]) (rest := []) (c_J0_checkIndex_df160 G h i 96 hi (by decide) (fun h' => h' = h) rfl) yl_J0_checkIndex_df160 (gm1 (List.mem_of_getElem? (i := 65) rfl) rfl) (gm1 (List.mem_of_getElem? (i := 66) rfl) rfl) (by decide) rfl (Nat.le_of_ble_eq_true rfl) dJ1_charAt_3b067_3 rfl (kV fun h1 e1 => ?_)
  subst e1
  refine r_aload_n C dJ1_charAt_3b067_6 0 rfl ?_
  refine r_iload_n C dJ1_charAt_3b067_7 1 rfl ?_
  refine s_bald C hT (by decide) hi dJ1_charAt_3b067_8 ?_
  refine r_sipush (v := 255) C dJ1_charAt_3b067_9 (by decide) ?_
  refine r_iand C dJ1_charAt_3b067_12 ?_
  refine s_i2c C dJ1_charAt_3b067_13 ?_
  have key : ∀ i, i < 96 → (((stb.getD i 0) &&& 255).toUInt32 % 65536).toInt32 = stb.getD i 0 ∧ narrow .char (.int (stb.getD i 0)) = .int (stb.getD i 0) := by decide +kernel
  rw [(key i hi).1]
  exact s_zret C hr dJ1_charAt_3b067_14 (key i hi).2 hw
theorem c_J0_isLatin1_aae02 (G : GG) (h : AH) (post : AH → Int32 → Prop) (hw : post h 1) : MS G yJ0_isLatin1_aae02 cJ0_isLatin1_aae02 1 (some .boolean) 0 0 h [.ref (G.2.2.2 20)] (pI post) := by
  refine MS.of (lv := [(0, .ref (G.2.2.2 20))]) (by decide) (Nat.le_of_ble_eq_true rfl) rfl fun p l e R s m args below meth c C hE hr hnm => ?_
  refine s_gets C hE.2.2.2.2.2.1 (gm1 (List.mem_of_getElem? (i := 52) rfl) rfl) dJ0_isLatin1_aae02_0 ?_
  refine r_if_eq C dJ0_isLatin1_aae02_3 17 (by decide) (fun hc => absurd hc (by decide)) (fun hc => ?_)
  refine r_aload_n C dJ0_isLatin1_aae02_6 0 rfl ?_
  refine s_getf C hE.2.2.1 (gm9 (List.mem_of_getElem? (i := 94) rfl) rfl) rfl dJ0_isLatin1_aae02_7 ?_
  refine r_if_ne C dJ0_isLatin1_aae02_10 17 (by decide) (fun hc => absurd rfl hc) (fun hc => ?_)
  refine r_iconst (v := 1) C dJ0_isLatin1_aae02_13 (by decide) ?_
  refine r_goto C dJ0_isLatin1_aae02_14 18 (by decide) ?_
  exact s_zret C hr dJ0_isLatin1_aae02_18 rfl hw
theorem c_J0_coder_7d493 (G : GG) (h : AH) (post : AH → Int32 → Prop) (hw : post h 0) : MS G yJ0_coder_7d493 cJ0_coder_7d493 1 (some .byte) 0 0 h [.ref (G.2.2.2 20)] (pI post) := by
  refine MS.of (lv := [(0, .ref (G.2.2.2 20))]) (by decide) (Nat.le_of_ble_eq_true rfl) rfl fun p l e R s m args below meth c C hE hr hnm => ?_
  refine s_gets C hE.2.2.2.2.2.1 (gm1 (List.mem_of_getElem? (i := 52) rfl) rfl) dJ0_coder_7d493_0 ?_
  refine r_if_eq C dJ0_coder_7d493_3 13 (by decide) (fun hc => absurd hc (by decide)) (fun hc => ?_)
  refine r_aload_n C dJ0_coder_7d493_6 0 rfl ?_
  refine s_getf C hE.2.2.1 (gm9 (List.mem_of_getElem? (i := 94) rfl) rfl) rfl dJ0_coder_7d493_7 ?_
  refine r_goto C dJ0_coder_7d493_10 14 (by decide) ?_
  exact s_zret C hr dJ0_coder_7d493_14 rfl hw
theorem c_J0_length_8abf5 (G : GG) (h : AH) (post : AH → Int32 → Prop) (hw : post h 96) : MS G yJ0_length_8abf5 cJ0_length_8abf5 1 (some .int) 1 20 h [.ref (G.2.2.2 20)] (pI post) := by
  refine MS.of (lv := [(0, .ref (G.2.2.2 20))]) (by decide) (Nat.le_of_ble_eq_true rfl) rfl fun p l e R s m args below meth c C hE hr hnm => ?_
  refine r_aload_n C dJ0_length_8abf5_0 0 rfl ?_
  refine s_getf C hE.2.2.2.1 (gm9 (List.mem_of_getElem? (i := 93) rfl) rfl) rfl dJ0_length_8abf5_1 ?_
  refine s_len C hE.2.2.2.2.1 dJ0_length_8abf5_4 ?_
  refine r_aload_n C dJ0_length_8abf5_5 0 rfl ?_
  refine s_callV C hE (As := []) (rest := [.int (nI 96)]) (c_J0_coder_7d493 G h (fun h' r => h' = h ∧ r = 0) ⟨rfl, rfl⟩) yl_J0_coder_7d493 (gm1 (List.mem_of_getElem? (i := 48) rfl) rfl) (gm1 (List.mem_of_getElem? (i := 49) rfl) rfl) (gm1 (List.mem_of_getElem? (i := 50) rfl) rfl) (by decide) rfl (Nat.le_of_ble_eq_true rfl) dJ0_length_8abf5_6 rfl (kI fun h1 r1 q1 => ?_)
  obtain ⟨rfl, rfl⟩ := q1
  refine r_ishr C dJ0_length_8abf5_9 ?_
  exact r_iret C hr dJ0_length_8abf5_10 hw
theorem c_J0_charAt_5068e (G : GG) (h : AH) (i : Nat) (hi : i < 96) (post : AH → Int32 → Prop) (hw : post h (stb.getD i 0)) : MS G yJ0_charAt_5068e cJ0_charAt_5068e 2 (some .char) 3 64 h [.ref (G.2.2.2 20), .int (nI i)] (pI post) := by
  refine MS.of (lv := [(0, .ref (G.2.2.2 20)), (1, .int (nI i))]) (by decide) (Nat.le_of_ble_eq_true rfl) rfl fun p l e R s m args below meth c C hE hr hnm => ?_
  refine r_aload_n C dJ0_charAt_5068e_0 0 rfl ?_
  refine s_callV C hE (As := []) (rest := []) (c_J0_isLatin1_aae02 G h (fun h' r => h' = h ∧ r = 1) ⟨rfl, rfl⟩) yl_J0_isLatin1_aae02 (gm1 (List.mem_of_getElem? (i := 58) rfl) rfl) (gm1 (List.mem_of_getElem? (i := 59) rfl) rfl) (gm1 (List.mem_of_getElem? (i := 60) rfl) rfl) (by decide) rfl (Nat.le_of_ble_eq_true rfl) dJ0_charAt_5068e_1 rfl (kI fun h1 r1 q1 => ?_)
  obtain ⟨rfl, rfl⟩ := q1
  refine r_if_eq C dJ0_charAt_5068e_4 16 (by decide) (fun hc => absurd hc (by decide)) (fun hc => ?_)
  refine r_aload_n C dJ0_charAt_5068e_7 0 rfl ?_
  refine s_getf C hE.2.2.2.1 (gm9 (List.mem_of_getElem? (i := 93) rfl) rfl) rfl dJ0_charAt_5068e_8 ?_
  refine r_iload_n C dJ0_charAt_5068e_11 1 rfl ?_
  refine s_callS C hE (As := [.ref (G.2.2.2 21), .int (nI i)]) (rest := []) (c_J1_charAt_3b067 G h1 i hi (fun h' r => h' = h1 ∧ r = stb.getD i 0) ⟨rfl, rfl⟩) yl_J1_charAt_3b067 (gm1 (List.mem_of_getElem? (i := 62) rfl) rfl) (gm1 (List.mem_of_getElem? (i := 63) rfl) rfl) (by decide) rfl (Nat.le_of_ble_eq_true rfl) dJ0_charAt_5068e_12 rfl (kI fun h2 r2 q2 => ?_)
  obtain ⟨rfl, rfl⟩ := q2
  have kn : ∀ i, i < 96 → narrow .char (.int (stb.getD i 0)) = .int (stb.getD i 0) := by decide +kernel
  exact s_zret C hr dJ0_charAt_5068e_15 (kn i hi) hw
