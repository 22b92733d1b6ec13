def R_law : String := "RaftTownLaw"
def lw_P (b : Addr) (xs : List Int32) (args : Array Value) (s : State) : Prop := args = #[.ref b] ∧ s.IntsAt b xs ∧ xs.length ≤ 3072 ∧ (Jvm.Cond.and given_1 narrow_1).before args s = true
def lw_Q (_ : Array Value) (s : State) (o : Outcome) (t : State) : Prop := o = .returned (some (.int 1)) ∧ Framed s o t [] 601024 7293034
def lw_Z (below : List Frame) (a : Array Value) (s : State) : State → Prop := fun t => ∃ o, t.status = .running ∧ Ended t below o ∧ lw_Q a s o t
/-- the law's own end, with 1 on the stack, nothing written that was there before, its room as the claim has it -/
theorem lw_ret {p : Program} {l : Launch} {e : Env} {s : State} {m : MethodId} {below : List Frame} {meth : Method} {c : Code} {b : Nat} (hx : p.tables.exec = Jvm.exec) (hb : c.code = code) (hr : meth.sig.returnType = ret) (hlocks : meth.locks = false) {pc : Nat} {H : Heap} {ls : Array Slot} (hdg : decode code pc = .ok (.ireturn, 1)) : W p l e room_1 s m #[Value.ref b] below meth c H [] 601024 7293034 (lw_Z below #[Value.ref b] s) (F0 m pc ls [.int 1]) := by
  intro T hT X
  obtain ⟨fs, hret, hrun, hended, hW, hframe⟩ := X.leave (v := some (.int 1)) (hlocks := hlocks) (fun h => by rw [hr] at h; cases h)
  have hmeth' : T.vm.method? m = some meth := X.method'
  refine ⟨T.setFrames fs, ?_, .returned (some (.int 1)), hrun, hended, rfl, ⟨_, rfl⟩, hW, hframe⟩
  jvm_step X.here [X.here.top, hx, hb, hdg, hmeth', hr, ret, narrow_b1]
  (try refine ⟨rfl, ?_⟩); (try refine ⟨rfl, ?_⟩)
  first | (intro acts; rw [hret _ acts rfl rfl rfl]) | rw [hret _ _ rfl rfl rfl]
  exact Steps.refl _
/-- what holds at the law's entry: the machine, the code, the tables' words (any of lw_tbl by 'hts w (by decide +kernel)'), the script of L ints xs at the cell b, what the Statement gives of the start (any of its parts by flat_of_before) -/
def lw_At (p : Program) (s : State) (m : MethodId) (meth : Method) (c : Code) (b L : Nat) (xs : Nat → Int32) : Prop :=
  p.tables.exec = Jvm.exec ∧ c.code = code ∧ meth.sig.returnType = ret ∧ c.maxLocals = 7 ∧ s.vm.findClass R_law = some m.cls ∧ (∀ w ∈ lw_tbl, w.before #[Value.ref b] s = true) ∧ va_X b L xs s s.heap ∧ b < s.heap.size ∧ meth.locks = false ∧ (Jvm.Cond.and given_1 narrow_1).before #[Value.ref b] s = true
/-- a contract of a method with a table of its own that doesn't throw -/
def ML (G : GG) (y : MethodName) (cc : ByteArray) (nL : Nat) (ret : Option FieldType) (hh : List (Nat × Nat × Nat × Nat)) (fr lo : Nat) (h : AH) (av : List Value) (post : AH → Option Value → Prop) : Prop :=
  ∀ l : Launch, l.stackTraces = false → Met l y (Cond.codeWith y cc nL ret hh :: gt) { frames := fr, cells := 601024 - aN h, slots := 7293034 - aS h, locals := lo } (va_Pc av (fun U => Rep G h U.heap ∧ va_K G.2.2.1 vwCl (tyA G) U ∧ NW U ∧ XE G U)) (QcP G post) (601024 - aN h) (7293034 - aS h) (fun q => G.1 ≤ q)
section MLs
variable {G : GG} {p : Program} {l : Launch} {e : Env} {R : Room} {s : State} {m : MethodId} {args : Array Value} {below : List Frame} {meth : Method} {c : Code} {nL : Nat} {Q : State → Prop} {cc : ByteArray} {own : String} {n0 s0 fr lo : Nat}
  {pc : Nat} {lv : List (Nat × Value)} {st : List Value} {h h' : AH} {a b k ci index : Nat}
  {y x : MethodName} {cc' : ByteArray} {nL' fr' lo' n : Nat} {ret : Option FieldType} {As rest : List Value} {post : AH → Option Value → Prop} {px : AH → Prop} {hh : List (Nat × Nat × Nat × Nat)}
abbrev QN (G : GG) (post : AH → Option Value → Prop) (args : Array Value) (s : State) (below : List Frame) (n0 s0 : Nat) : State → Prop := vx_MQ below (QcP G post) (fun _ _ _ => False) args s (601024 - n0) (7293034 - s0) (fun q => G.1 ≤ q)
theorem ML.of {av : List Value} (hcw : Cond.codeWith y cc nL ret hh ∈ gt) (hy : plainName y.cls = true) (hln : (lg_sl av).length ≤ nL) (hlv : lv_args 0 av = lv)
    (body : ∀ (p : Program) (l : Launch) (e : Env) (R : Room) (s : State) (m : MethodId) (args : Array Value) (below : List Frame) (meth : Method) (c : Code), l.stackTraces = false → Cx G p R s m args meth c nL cc y.cls (aN h) (aS h) fr lo → XE G s → c.exceptionTable.toList = tableOf hh → meth.sig.returnType = ret →
      AW G p l e R s m args below meth c nL (QN G post args s below (aN h) (aS h)) 0 lv [] h) : ML G y cc nL ret hh fr lo h av post := by
  intro l hlt
  have hM : vx_Met l y (Cond.codeWith y cc nL ret hh :: gt) { frames := fr, cells := 601024 - aN h, slots := 7293034 - aS h, locals := lo } (va_Pc av (fun U => Rep G h U.heap ∧ va_K G.2.2.1 vwCl (tyA G) U ∧ NW U ∧ XE G U)) (QcP G post) (fun _ _ _ => False) (601024 - aN h) (7293034 - aS h) (fun q => G.1 ≤ q) := by
    refine vx_ofWH (cc := cc) (maxL := nL) (ret := ret) hy rfl ?_
    intro p e s m args below meth c s₁ B hml hv
    obtain ⟨rfl, hR, hK, hN, hE⟩ := hv
    have hts := atoms_spec (ws := Cond.codeWith y cc nL ret hh :: gt) B.pre
    have hown : s.vm.findClass y.cls = some m.cls := findClass_of_methodNamed B.named
    have htab : c.exceptionTable.toList = tableOf hh := vx_table (x := y) B (hts _ List.mem_cons_self)
    have hC : Cx G p { frames := fr, cells := 601024 - aN h, slots := 7293034 - aS h, locals := lo } s m av.toArray meth c nL cc y.cls (aN h) (aS h) fr lo :=
      ⟨B.exec, B.bytes, hml, hown, fun w hw => hts w (List.mem_cons_of_mem _ hw), hK, hR.2.1, hR.2.2.1, rfl, B.notSynchronized, hN⟩
    have hl := lv_entry av hln
    rw [hlv] at hl
    rw [lg_entry_eq]
    exact body p l e _ s m _ below meth c hlt hC hE htab B.returns s.heap [] 0 0 _ hR (fun q hq => by cases hq) hl
  intro p e ha hc hk s m args below hf happ hP hK
  obtain ⟨k, o, h1, h2, h3, hQ⟩ := hM p e ha hc hk s m args below hf happ hP hK
  refine ⟨k, o, h1, h2, h3, ?_⟩
  rcases hQ with hQ | ⟨q, -, E, ce, L, hF, -⟩
  · exact hQ
  · exact hF.elim
theorem blindX {av : List Value} : FrameBlind (va_Pc av (fun U => Rep G h U.heap ∧ va_K G.2.2.1 vwCl (tyA G) U ∧ NW U ∧ XE G U)) :=
  fun a U g mk q => ⟨q.1, q.2.1, va_K.moved (u := U) (U := U.calling g mk a) (Vm.Alike.refl U.vm) q.2.2.1, NW.same (s := U) (U := U.calling g mk a) rfl q.2.2.2.1, XE.same (s := U) (U := U.calling g mk a) rfl q.2.2.2.2⟩
theorem Cx.preX (C : Cx G p R s m args meth c nL cc own n0 s0 fr lo) (hE : XE G s) {H : Heap} {av : List Value} (hR : Rep G h H) : ∀ U : State, U.heap = H → s.WarmedH U.vm → va_Pc av (fun U => Rep G h U.heap ∧ va_K G.2.2.1 vwCl (tyA G) U ∧ NW U ∧ XE G U) av.toArray U :=
  fun U hU hW => ⟨rfl, by rw [hU]; exact hR, va_K.moved hW.alike C.2.2.2.2.2.1, NW.warm hW C.2.2.2.2.2.2.2.2.2.2, hE.warm hW⟩
theorem n_iret (C : Cx G p R s m args meth c nL cc own n0 s0 fr lo) {pst : AH → Int32 → Prop} {x : Int32} (hr : meth.sig.returnType = some .int) (hd : decode cc pc = .ok (.ireturn, 1)) (hp : pst h x) : AW G p l e R s m args below meth c nL (QN G (pI pst) args s below n0 s0) pc lv [.int x] h :=
  fun H locs cells slots ls hR hlo hl => vx_ret (r_iret C hr hd hp H locs cells slots ls hR hlo hl)
/-- the call of a method that may throw, caught by the only row of the caller's table -/
theorem x_callV (C : Cx G p R s m args meth c nL cc own n0 s0 fr lo) (hlt : l.stackTraces = false) (hE : XE G s) (hM : MT G y cc' nL' ret fr' lo' h (.ref (G.1 + b) :: As) post px) (Y : YL y cc' nL' ret n) (hl : Cond.methodLink own index y ∈ gt) (hin : Cond.instanceMethod y ∈ gt)
    {Cn : String} {T : u_T} {N : Nat} (hcl : vwCl[ci]? = some (Cn, T, N)) (hci : ci < 12) (hsel : SelOk Cn y) (hb : aK h b = ci ∧ b < aN h) (hfr : fr' + 1 ≤ fr ∧ 8 + (nL' + 11) + lo' ≤ lo) (hn : As.length = n) (hW : (rest.map fun v => v.category).sum ≤ 8)
    (hd : decode cc pc = .ok (.invokevirtual index, 3)) {st0 : List Value} (hst : st0 = As.reverse ++ .ref (G.1 + b) :: rest)
    (xr : ExceptionTableEntry) (htab : c.exceptionTable.toList = [xr]) (hx : covers xr pc = true) (h0 : xr.catchType ≠ 0) (hlink : Cond.classLink own xr.catchType nse ∈ gt)
    (kk : ∀ h' v, post h' v → AW G p l e R s m args below meth c nL Q (pc + 3) lv (v.toList ++ rest) h') (kx : ∀ h' q, px h' → AW G p l e R s m args below meth c nL Q xr.handlerPc lv [.ref q] h') : AW G p l e R s m args below meth c nL Q pc lv st0 h := by
  have hts := C.2.2.2.2.1
  intro H locs cells slots ls hR hlo hlv
  refine W_tight fun t1 t2 => ?_
  have hrun := vx_runV (e := e) (meth := meth) (below := below) (Ts := gt) (g := F0 m pc ls st0) (rest := rest) (locs := locs) (H := H) ⟨C.1, C.2.1, C.2.2.1, C.2.2.2.1, hts⟩ (hM l hlt) ⟨C.callB Y hl hfr, hts _ hin, hts _ hsel⟩ ⟨blindX, hR.recv C.2.2.2.2.2.1 hb hci hcl, C.preX hE hR⟩ rfl hn hlv.1 hst (lv_room hW) hd (C.room hR t1 t2)
  intro T9 hT X
  rcases hrun T9 hT X with ⟨v, st₀, t, T', L, hst0, X', hL, e1, e2, ⟨h', v', hv', hRep, hp⟩, go⟩ | ⟨q, st₀, t, T', L, E, ce, hst0, X', hL, e1, e2, ⟨rfl, h', hRep, hp⟩, hce, hcv, hcle, go⟩
  · cases hv'
    obtain ⟨t', a1, b1⟩ := kk h' v hp T'.heap (locs ++ L) _ _ ls (by rw [e1]; exact hRep) (fun q hq => by
      rcases List.mem_append.mp hq with h | h
      · exact hlo q h
      · exact hL q h) hlv T' rfl X'
    exact ⟨t', go _ a1, b1⟩
  · have hcatch := yx_catch (p := p) (l := l) (e := e) (R := R) (below := below) (meth := meth) (cells := H.size - s.heap.size + (601024 - aN h)) (slots := slotSum H - slotSum s.heap + (7293034 - aS h)) (locs := locs ++ L) (Q := Q) (ls := ls) (rest := rest) (pc := pc) (H := T'.heap) (E := nse) (name := nse) (own := own) C.2.2.2.1 xr htab hx h0 (hts _ hlink) (va_Nw.use rfl (hE.1 _ (List.mem_of_getElem? (i := 3) rfl))) (by rw [e1]; exact hce) hcv hcle
      (kx h' q hp T'.heap (locs ++ L) _ _ ls (by rw [e1]; exact hRep) (fun q hq => by
        rcases List.mem_append.mp hq with h | h
        · exact hlo q h
        · exact hL q h) hlv)
    obtain ⟨t', a1, b1⟩ := hcatch T' rfl X'
    exact ⟨t', go.trans a1, b1⟩
/-- a static call of a method with a table -/
theorem l_callW (C : Cx G p R s m args meth c nL cc own n0 s0 fr lo) (hlt : l.stackTraces = false) (hE : XE G s) (hM : ML G y cc' nL' ret hh fr' lo' h As post) (hcw : Cond.codeWith y cc' nL' ret hh ∈ gt) (hini : Cond.initialized y.cls ∈ gt) (hl : Cond.methodLink own index y ∈ gt) (hin : Cond.static y ∈ gt)
    (hdd : y.cls ≠ "java/lang/invoke/MethodHandle" ∧ y.cls ≠ "java/lang/invoke/VarHandle" ∧ (parseMethodDescriptor y.desc).map (fun d => d.parameters.length) = some n)
    (hfr : fr' + 1 ≤ fr ∧ 8 + (nL' + 11) + lo' ≤ lo) (hn : As.length = n) (hW : (rest.map fun v => v.category).sum ≤ 8)
    (hd : decode cc pc = .ok (.invokestatic index, 3)) {st0 : List Value} (hst : st0 = As.reverse ++ rest) (kk : ∀ h' v, post h' v → AW G p l e R s m args below meth c nL Q (pc + 3) lv (v.toList ++ rest) h') : AW G p l e R s m args below meth c nL Q pc lv st0 h := by
  have hts := C.2.2.2.2.1
  have hRe := C.2.2.2.2.2.2.2.2.1
  refine aw_run (aa := As.toArray) (mc := 601024 - aN h) (ms := 7293034 - aS h) (rest := rest) (fun H locs ls hR hlv t1 t2 => ?_) kk
  refine vx_runSW (Ts := gt) (hh := hh) ⟨C.1, C.2.1, C.2.2.1, C.2.2.2.1, hts⟩ (hM l hlt) (vx_cwSW n hts (gt_app (fun w hw => ?_) (gt_in0 hcw)) rfl rfl rfl hdd (by subst hRe; exact hfr)) ⟨blindX, C.preX hE hR⟩ rfl hn hlv.1 hst (lv_room hW) hd (C.room hR t1 t2)
  simp only [List.mem_cons, List.not_mem_nil, or_false] at hw
  rcases hw with rfl | rfl | rfl
  · exact hl
  · exact hin
  · exact hini
/-- the law's script -/
theorem l_sld (C : Cx G p R s m args meth c nL cc own n0 s0 fr lo) {bb L : Nat} {xs : Nat → Int32} (hX : va_X bb L xs s G.2.1) (hbl : bb < G.1) {i : Int32} (hi : vp_in i L) (hd : decode cc pc = .ok (.iaload, 1))
    (kk : AW G p l e R s m args below meth c nL Q (pc + 1) lv (.int (xs i.toNatClampNeg) :: st) h) : AW G p l e R s m args below meth c nL Q pc lv (.int i :: .ref bb :: st) h := by
  intro H locs cells slots ls hR hlo hlv
  obtain ⟨scr, h1, h2, h3, h4, h5⟩ := hX
  have hlt : i.toNatClampNeg < L := Nat.not_le.mp fun q => hi (Or.inr q)
  exact W.iald (v := .int (xs i.toNatClampNeg)) C.1 C.2.1 (by rw [hR.2.2.2.2.1 _ hbl]; exact h1) h2 h3 (by rw [h4]; exact hi) (h5 _ hlt) rfl rfl hd (kk H locs cells slots ls hR hlo hlv)
theorem l_slen (C : Cx G p R s m args meth c nL cc own n0 s0 fr lo) {bb L : Nat} {xs : Nat → Int32} (hX : va_X bb L xs s G.2.1) (hbl : bb < G.1) (hd : decode cc pc = .ok (.arraylength, 1))
    (kk : AW G p l e R s m args below meth c nL Q (pc + 1) lv (.int (nI L) :: st) h) : AW G p l e R s m args below meth c nL Q pc lv (.ref bb :: st) h := by
  intro H locs cells slots ls hR hlo hlv
  obtain ⟨scr, h1, h2, h3, h4, h5⟩ := hX
  exact W.alen (n := nI L) C.1 C.2.1 (by rw [hR.2.2.2.2.1 _ hbl]; exact h1) h2 (by rw [h4]; rfl) rfl rfl hd (kk H locs cells slots ls hR hlo hlv)
theorem l_ret {bb : Nat} (C : Cx G p room_1 s m #[Value.ref bb] meth c nL code own 0 0 10 362) (hr : meth.sig.returnType = some .boolean) (hd : decode code pc = .ok (.ireturn, 1)) {x : Int32} (hx : x = 1) : AW G p l e room_1 s m #[Value.ref bb] below meth c nL (lw_Z below #[Value.ref bb] s) pc lv [.int x] h := by
  intro H locs cells slots ls hR hlo hlv
  subst hx
  refine W_fit C hR ?_
  refine va_forget (fun q hq => by rw [C.2.2.2.2.2.2.1]; exact hlo q hq) ?_
  exact lw_ret C.1 C.2.1 hr C.2.2.2.2.2.2.2.2.2.1 hd
end MLs
theorem dL_raft_0 : decode cL_raft 0 = .ok (.aload_n 3, 1) := by decide +kernel
theorem dL_raft_1 : decode cL_raft 1 = .ok (.iconst 0, 1) := by decide +kernel
theorem dL_raft_2 : decode cL_raft 2 = .ok (.aload_n 0, 1) := by decide +kernel
theorem dL_raft_3 : decode cL_raft 3 = .ok (.iload_n 1, 1) := by decide +kernel
theorem dL_raft_4 : decode cL_raft 4 = .ok (.iload_n 2, 1) := by decide +kernel
theorem dL_raft_5 : decode cL_raft 5 = .ok (.invokevirtual 7, 3) := by decide +kernel
theorem dL_raft_8 : decode cL_raft 8 = .ok (.i2l, 1) := by decide +kernel
theorem dL_raft_9 : decode cL_raft 9 = .ok (.lastore, 1) := by decide +kernel
theorem dL_raft_10 : decode cL_raft 10 = .ok (.goto 7, 3) := by decide +kernel
theorem dL_raft_13 : decode cL_raft 13 = .ok (.astore 4, 2) := by decide +kernel
theorem dL_raft_15 : decode cL_raft 15 = .ok (.iconst 1, 1) := by decide +kernel
theorem dL_raft_16 : decode cL_raft 16 = .ok (.ireturn, 1) := by decide +kernel
theorem dL_raft_17 : decode cL_raft 17 = .ok (.iconst 0, 1) := by decide +kernel
theorem dL_raft_18 : decode cL_raft 18 = .ok (.ireturn, 1) := by decide +kernel
theorem yl_X11_raft : YL yX11_raft cX11_raft 4 (some .int) 2 := ⟨(gm6 (List.mem_of_getElem? (i := 106) rfl) rfl), (gm1 (List.mem_of_getElem? (i := 1) rfl) rfl), by decide, by decide, by decide +kernel⟩
def wp_L_raft (h : AH) (a0 : Nat) (x1 x2 : Int32) (a3 : Nat) (post : AH → Int32 → Prop) : Prop := (ob h a0 10) ∧ wp_X11_raft h a0 x1 x2 (fun hv1 iv1 => (ob hv1 a3 14) ∧ (vp_in 0 (aL hv1 a3)) ∧ ∀ hv2 : AH, hv2 = hJ hv1 a3 (0 : Int32).toNatClampNeg iv1.toInt64 → post hv2 0) (fun hv3 => post hv3 1)
theorem cw_L_raft : Cond.codeWith yL_raft cL_raft 5 (some .int) [(0, 10, 13, 13)] ∈ gt := (gm6 (List.mem_of_getElem? (i := 101) rfl) rfl)
theorem c_L_raft (G : GG) (h : AH) (a0 : Nat) (x1 x2 : Int32) (a3 : Nat) (post : AH → Int32 → Prop) (hw : wp_L_raft h a0 x1 x2 a3 post) : ML G yL_raft cL_raft 5 (some .int) [(0, 10, 13, 13)] 7 104 h [.ref (G.1 + a0), .int x1, .int x2, .ref (G.1 + a3)] (pI post) := by
  refine ML.of (lv := [(0, .ref (G.1 + a0)), (1, .int x1), (2, .int x2), (3, .ref (G.1 + a3))]) cw_L_raft (by decide) (Nat.le_of_ble_eq_true rfl) rfl fun p l e R s m args below meth c hlt C hE htab hr => ?_
  unfold wp_L_raft at hw
  refine r_aload_n C dL_raft_0 3 rfl ?_
  refine r_iconst (v := 0) C dL_raft_1 (by decide) ?_
  refine r_aload_n C dL_raft_2 0 rfl ?_
  refine r_iload_n C dL_raft_3 1 rfl ?_
  refine r_iload_n C dL_raft_4 2 rfl ?_
  have hob := hw.1
  replace hw := hw.2
  refine x_callV C hlt hE (As := [.int x1, .int x2]) (rest := [.int 0, .ref (G.1 + a3)]) (c_X11_raft G h a0 x1 x2 _ _ hw) yl_X11_raft (gm6 (List.mem_of_getElem? (i := 103) rfl) rfl) (gm6 (List.mem_of_getElem? (i := 104) rfl) rfl) (ci := 10) rfl (by decide) (gm6 (List.mem_of_getElem? (i := 105) rfl) rfl) hob (by decide) rfl (Nat.le_of_ble_eq_true rfl) dL_raft_5 rfl _ htab (by decide) (by decide) (gm6 (List.mem_of_getElem? (i := 102) rfl) rfl) (kI fun hv1 iv1 hw => ?_) (fun hv3 q hw => ?_)
  · refine r_i2l C dL_raft_8 ?_
    refine r_lastore C hw.1 hw.2.1 dL_raft_9 ?_
    replace hw := hw.2.2
    refine r_toph fun hv2 ehv2 => ?_
    replace hw := hw hv2 ehv2
    refine r_goto C dL_raft_10 17 (by decide) ?_
    refine r_iconst (v := 0) C dL_raft_17 (by decide) ?_
    exact n_iret C hr dL_raft_18 hw
  · refine r_astore C dL_raft_13 [(4, .ref q), (0, .ref (G.1 + a0)), (1, .int x1), (2, .int x2), (3, .ref (G.1 + a3))] (by decide) rfl ?_
    refine r_iconst (v := 1) C dL_raft_15 (by decide) ?_
    exact n_iret C hr dL_raft_16 hw
theorem dL_act_0 : decode cL_act 0 = .ok (.aload_n 3, 1) := by decide +kernel
theorem dL_act_1 : decode cL_act 1 = .ok (.iconst 0, 1) := by decide +kernel
theorem dL_act_2 : decode cL_act 2 = .ok (.aload_n 0, 1) := by decide +kernel
theorem dL_act_3 : decode cL_act 3 = .ok (.iload_n 1, 1) := by decide +kernel
theorem dL_act_4 : decode cL_act 4 = .ok (.iload_n 2, 1) := by decide +kernel
theorem dL_act_5 : decode cL_act 5 = .ok (.invokevirtual 15, 3) := by decide +kernel
theorem dL_act_8 : decode cL_act 8 = .ok (.i2l, 1) := by decide +kernel
theorem dL_act_9 : decode cL_act 9 = .ok (.lastore, 1) := by decide +kernel
theorem dL_act_10 : decode cL_act 10 = .ok (.goto 7, 3) := by decide +kernel
theorem dL_act_13 : decode cL_act 13 = .ok (.astore 4, 2) := by decide +kernel
theorem dL_act_15 : decode cL_act 15 = .ok (.iconst 1, 1) := by decide +kernel
theorem dL_act_16 : decode cL_act 16 = .ok (.ireturn, 1) := by decide +kernel
theorem dL_act_17 : decode cL_act 17 = .ok (.iconst 0, 1) := by decide +kernel
theorem dL_act_18 : decode cL_act 18 = .ok (.ireturn, 1) := by decide +kernel
theorem yl_X11_act : YL yX11_act cX11_act 3 (some .int) 2 := ⟨(gm6 (List.mem_of_getElem? (i := 176) rfl) rfl), (gm1 (List.mem_of_getElem? (i := 1) rfl) rfl), by decide, by decide, by decide +kernel⟩
def wp_L_act (h : AH) (a0 : Nat) (x1 x2 : Int32) (a3 : Nat) (post : AH → Int32 → Prop) : Prop := (ob h a0 10) ∧ wp_X11_act h a0 x1 x2 (fun hv1 iv1 => (ob hv1 a3 14) ∧ (vp_in 0 (aL hv1 a3)) ∧ ∀ hv2 : AH, hv2 = hJ hv1 a3 (0 : Int32).toNatClampNeg iv1.toInt64 → post hv2 0) (fun hv3 => post hv3 1)
theorem cw_L_act : Cond.codeWith yL_act cL_act 5 (some .int) [(0, 10, 13, 13)] ∈ gt := (gm6 (List.mem_of_getElem? (i := 172) rfl) rfl)
theorem c_L_act (G : GG) (h : AH) (a0 : Nat) (x1 x2 : Int32) (a3 : Nat) (post : AH → Int32 → Prop) (hw : wp_L_act h a0 x1 x2 a3 post) : ML G yL_act cL_act 5 (some .int) [(0, 10, 13, 13)] 7 103 h [.ref (G.1 + a0), .int x1, .int x2, .ref (G.1 + a3)] (pI post) := by
  refine ML.of (lv := [(0, .ref (G.1 + a0)), (1, .int x1), (2, .int x2), (3, .ref (G.1 + a3))]) cw_L_act (by decide) (Nat.le_of_ble_eq_true rfl) rfl fun p l e R s m args below meth c hlt C hE htab hr => ?_
  unfold wp_L_act at hw
  refine r_aload_n C dL_act_0 3 rfl ?_
  refine r_iconst (v := 0) C dL_act_1 (by decide) ?_
  refine r_aload_n C dL_act_2 0 rfl ?_
  refine r_iload_n C dL_act_3 1 rfl ?_
  refine r_iload_n C dL_act_4 2 rfl ?_
  have hob := hw.1
  replace hw := hw.2
  refine x_callV C hlt hE (As := [.int x1, .int x2]) (rest := [.int 0, .ref (G.1 + a3)]) (c_X11_act G h a0 x1 x2 _ _ hw) yl_X11_act (gm6 (List.mem_of_getElem? (i := 173) rfl) rfl) (gm6 (List.mem_of_getElem? (i := 174) rfl) rfl) (ci := 10) rfl (by decide) (gm6 (List.mem_of_getElem? (i := 175) rfl) rfl) hob (by decide) rfl (Nat.le_of_ble_eq_true rfl) dL_act_5 rfl _ htab (by decide) (by decide) (gm6 (List.mem_of_getElem? (i := 102) rfl) rfl) (kI fun hv1 iv1 hw => ?_) (fun hv3 q hw => ?_)
  · refine r_i2l C dL_act_8 ?_
    refine r_lastore C hw.1 hw.2.1 dL_act_9 ?_
    replace hw := hw.2.2
    refine r_toph fun hv2 ehv2 => ?_
    replace hw := hw hv2 ehv2
    refine r_goto C dL_act_10 17 (by decide) ?_
    refine r_iconst (v := 0) C dL_act_17 (by decide) ?_
    exact n_iret C hr dL_act_18 hw
  · refine r_astore C dL_act_13 [(4, .ref q), (0, .ref (G.1 + a0)), (1, .int x1), (2, .int x2), (3, .ref (G.1 + a3))] (by decide) rfl ?_
    refine r_iconst (v := 1) C dL_act_15 (by decide) ?_
    exact n_iret C hr dL_act_16 hw
