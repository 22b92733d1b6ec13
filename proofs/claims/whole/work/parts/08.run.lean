theorem sel_private {y y0 : MethodName} {Cn : String} {s : State} {args : Array Value} {n : Nat} (hy : y.cls ≠ "java/lang/invoke/MethodHandle" ∧ y.cls ≠ "java/lang/invoke/VarHandle")
    (hins : (Cond.instantiable Cn n).before args s = true) (hpriv : (Cond.privateMethod y).before args s = true) (hinst : (Cond.instanceMethod y).before args s = true) (h0 : (Cond.selects Cn y0 y0).before args s = true) (e0 : y0.cls = y.cls) :
    (Cond.selects Cn y y).before args s = true := by
  obtain ⟨c, k, hc, hk, -, hniab, -, -⟩ := Cond.instantiable_spec hins
  obtain ⟨mk, methM, hnamed, hmethM, -, -⟩ := Cond.instanceMethod_spec hinst
  have hfound : s.methodFound? y.cls y.name y.desc = some mk := State.methodFound?_of_named hnamed hy
  have hsel : selectMethod {} s.vm c mk = .method mk := selectMethod_private hmethM (Cond.privateMethod_at hpriv mk methM hnamed hmethM)
  have hni : Option.any (fun x => !x.isInterface) s.vm.classes[mk.cls]? = true := by
    obtain ⟨c2, r2, m2, q1, q2, q3, q4, q5⟩ := Cond.selects_spec h0
    have e1 : m2.cls = mk.cls := Option.some.inj ((findClass_of_methodNamed q3).symm.trans (by rw [e0]; exact findClass_of_methodNamed hnamed))
    obtain ⟨kk, w1, w2⟩ := q5
    rw [← e1, w1]
    simp [w2]
  simp only [Cond.before, Cond.holds, Cond.value, hc, hfound, hnamed, hsel, hk]
  simp; exact hni
theorem gt_in0 {c : Cond} (hc : c ∈ gt) : GoodIn gt (c :: gt) := fun w h => by
  rcases List.mem_cons.mp h with rfl | h
  · exact ⟨hc, good_of_word (gt_good _ hc)⟩
  · exact ⟨h, good_of_word (gt_good _ h)⟩
theorem gt_app {L : List Cond} (hL : ∀ w ∈ L, w ∈ gt) {ws : List Cond} (h : GoodIn gt ws) : GoodIn gt (L ++ ws) := fun w hw => by
  rcases List.mem_append.mp hw with q | q
  · exact ⟨hL w q, good_of_word (gt_good _ (hL w q))⟩
  · exact h w q
/-- what every call asks of the tables: its method's code, class, descriptor -/
def YL (y : MethodName) (cc : ByteArray) (nL : Nat) (ret : Option FieldType) (n : Nat) : Prop := Cond.code y cc nL ret ∈ gt ∧ Cond.initialized y.cls ∈ gt ∧ (y.cls ≠ "java/lang/invoke/MethodHandle" ∧ y.cls ≠ "java/lang/invoke/VarHandle" ∧ (parseMethodDescriptor y.desc).map (fun d => d.parameters.length) = some n)
def SelOk (Cn : String) (y : MethodName) : Prop := Cond.selects Cn y y ∈ gt
section RC
variable {G : GG} {p : Program} {l : Launch} {e : Env} {R : Room} {s : State} {m : MethodId} {args : Array Value} {below : List Frame} {meth : Method} {c : Code} {nL : Nat} {Q : State → Prop} {cc : ByteArray} {own : String} {n0 s0 fr lo : Nat}
  {pc : Nat} {lv : List (Nat × Value)} {st : List Value} {h h' : AH} {a b k ci index : Nat}
  {y x : MethodName} {cc' : ByteArray} {nL' fr' lo' n : Nat} {ret : Option FieldType} {As rest : List Value} {post : AH → Option Value → Prop}
theorem aw_run {aa : Array Value} {mc ms : Nat} {st0 : List Value} (hr : ∀ (H : Heap) (locs : List Loc) (ls : Array Slot), Rep G h H → lv_has ls nL lv → s.heap.size ≤ H.size → slotSum s.heap ≤ slotSum H →
      va_Run p l e R s m args below meth c H locs (H.size - s.heap.size) (slotSum H - slotSum s.heap) mc ms (F0 m pc ls st0) rest (QcP G post aa) (fun q => G.1 ≤ q))
    (kk : ∀ h' v, post h' v → AW G p l e R s m args below meth c nL Q (pc + 3) lv (v.toList ++ rest) h') : AW G p l e R s m args below meth c nL Q pc lv st0 h := by
  intro H locs cells slots ls hR hlo hl
  refine W_tight fun t1 t2 => ?_
  intro T hT X
  obtain ⟨v, st₀, t, T', L, hst, X', hL, e1, e2, ⟨h', v', hv', hRep, hp⟩, go⟩ := hr H locs ls hR hl t1 t2 T hT X
  cases hv'
  obtain ⟨t', a1, b1⟩ := kk h' v hp T'.heap (locs ++ L) _ _ ls (by rw [e1]; exact hRep) (fun q hq => by
    rcases List.mem_append.mp hq with h | h
    · exact hlo q h
    · exact hL q h) hl T' rfl X'
  exact ⟨t', go _ a1, b1⟩
theorem blind {av : List Value} : FrameBlind (va_Pc av (fun U => Rep G h U.heap ∧ va_K G.2.2.1 vwCl (tyA G) U ∧ NW U)) :=
  fun a U g mk q => ⟨q.1, q.2.1, va_K.moved (u := U) (U := U.calling g mk a) (Vm.Alike.refl U.vm) q.2.2.1, NW.same (s := U) (U := U.calling g mk a) rfl q.2.2.2⟩
theorem Cx.room (C : Cx G p R s m args meth c nL cc own n0 s0 fr lo) {H : Heap} (hR : Rep G h H) (t1 : s.heap.size ≤ H.size) (t2 : slotSum s.heap ≤ slotSum H) : H.size - s.heap.size + (601024 - aN h) ≤ R.cells ∧ slotSum H - slotSum s.heap + (7293034 - aS h) ≤ R.slots := by
  obtain ⟨d1, d2, d3, d4, d5, d6, -, -⟩ := C.cells hR t1 t2
  obtain ⟨-, -, -, -, -, r6, r7⟩ := hR
  omega
theorem Cx.callB (C : Cx G p R s m args meth c nL cc own n0 s0 fr lo) (Y : YL y cc' nL' ret n) (hl : Cond.methodLink own index y ∈ gt) (hfr : fr' + 1 ≤ fr ∧ 8 + (nL' + 11) + lo' ≤ lo) {mc ms : Nat} :
    CallB R s args own index y cc' nL' ret (Cond.code y cc' nL' ret :: gt) { frames := fr', cells := mc, slots := ms, locals := lo' } mc ms n := by
  have hRe := C.2.2.2.2.2.2.2.2.1
  exact callB_of n C.2.2.2.2.1 (gt_in0 Y.1) rfl rfl rfl (C.2.2.2.2.1 _ Y.2.1) (C.2.2.2.2.1 _ hl) Y.2.2 (by subst hRe; exact hfr)
theorem Cx.pre (C : Cx G p R s m args meth c nL cc own n0 s0 fr lo) {H : Heap} {av : List Value} (hR : Rep G h H) : ∀ U : State, U.heap = H → s.WarmedH U.vm → va_Pc av (fun U => Rep G h U.heap ∧ va_K G.2.2.1 vwCl (tyA G) U ∧ NW U) av.toArray U :=
  fun U hU hW => ⟨rfl, by rw [hU]; exact hR, va_K.moved hW.alike C.2.2.2.2.2.1, NW.warm hW C.2.2.2.2.2.2.2.2.2.2⟩
theorem Rep.recv {H0 : Heap} (hR : Rep G h H0) {ci : Nat} {q : vw_C} (hK : va_K G.2.2.1 vwCl (tyA G) s) (hb : aK h b = ci ∧ b < aN h) (hci : ci < 12) (hc : vwCl[ci]? = some q) : ∃ cell : Cell, H0[G.1 + b]? = some cell ∧ cell.vm.isStatics = false ∧ s.vm.findClass q.1 = some cell.cls := by
  have hat := hR.1 b hb.2 (by omega)
  rw [EE_obj hb.1 hci] at hat
  exact va_recv hK (va_P1 hat) (q0 := 0) hc rfl
theorem r_callV (C : Cx G p R s m args meth c nL cc own n0 s0 fr lo) (hM : MC G y cc' nL' ret fr' lo' h (.ref (G.1 + b) :: As) post) (Y : YL y cc' nL' ret n) (hl : Cond.methodLink own index y ∈ gt) (hin : Cond.instanceMethod y ∈ gt)
    {Cn : String} {T : u_T} {N : Nat} (hcl : vwCl[ci]? = some (Cn, T, N)) (hci : ci < 12) (hsel : SelOk Cn y) (hb : aK h b = ci ∧ b < aN h) (hfr : fr' + 1 ≤ fr ∧ 8 + (nL' + 11) + lo' ≤ lo) (hn : As.length = n) (hW : (rest.map fun v => v.category).sum ≤ 8)
    (hd : decode cc pc = .ok (.invokevirtual index, 3)) {st0 : List Value} (hst : st0 = As.reverse ++ .ref (G.1 + b) :: rest) (kk : ∀ h' v, post h' v → AW G p l e R s m args below meth c nL Q (pc + 3) lv (v.toList ++ rest) h') : AW G p l e R s m args below meth c nL Q pc lv st0 h := by
  have hts := C.2.2.2.2.1
  have hs : (Cond.selects Cn y y).before args s = true := hts _ hsel
  refine aw_run (aa := (Value.ref (G.1 + b) :: As).toArray) (mc := 601024 - aN h) (ms := 7293034 - aS h) (rest := rest) (fun H locs ls hR hlv t1 t2 => ?_) kk
  exact va_runV (Ts := gt) ⟨C.1, C.2.1, C.2.2.1, C.2.2.2.1, hts⟩ (hM l) ⟨C.callB Y hl hfr, hts _ hin, hs⟩ ⟨blind, hR.recv C.2.2.2.2.2.1 hb hci hcl, C.pre hR⟩ rfl hn hlv.1 hst (lv_room hW) hd (C.room hR t1 t2)
theorem r_callU (C : Cx G p R s m args meth c nL cc own n0 s0 fr lo) (hM : MC G y cc' nL' ret fr' lo' h (.ref (G.1 + b) :: As) post) (Y : YL y cc' nL' ret n) (hl : Cond.methodLink own index x ∈ gt) (hin : Cond.instanceMethod y ∈ gt)
    {Cn : String} {T : u_T} {N : Nat} (hcl : vwCl[ci]? = some (Cn, T, N)) (hci : ci < 12) (hsame : Cond.sameMethod x.cls y.cls x.name x.desc ∈ gt) (hsel : Cond.selects Cn x y ∈ gt) (hyx : y = ⟨y.cls, x.name, x.desc⟩) (hb : aK h b = ci ∧ b < aN h) (hfr : fr' + 1 ≤ fr ∧ 8 + (nL' + 11) + lo' ≤ lo) (hn : As.length = n) (hW : (rest.map fun v => v.category).sum ≤ 8)
    (hd : decode cc pc = .ok (.invokevirtual index, 3)) {st0 : List Value} (hst : st0 = As.reverse ++ .ref (G.1 + b) :: rest) (kk : ∀ h' v, post h' v → AW G p l e R s m args below meth c nL Q (pc + 3) lv (v.toList ++ rest) h') : AW G p l e R s m args below meth c nL Q pc lv st0 h := by
  have hts := C.2.2.2.2.1
  have hRe := C.2.2.2.2.2.2.2.2.1
  have hdx : (parseMethodDescriptor x.desc).map (fun d => d.parameters.length) = some n := by
    have := Y.2.2.2.2
    rw [hyx] at this
    exact this
  refine aw_run (aa := (Value.ref (G.1 + b) :: As).toArray) (mc := 601024 - aN h) (ms := 7293034 - aS h) (rest := rest) (fun H locs ls hR hlv t1 t2 => ?_) kk
  refine va_runU (Ts := gt) (x := x) (owner := y.cls) (C := Cn) ⟨C.1, C.2.1, C.2.2.1, C.2.2.2.1, hts⟩ (hM l) (va_cwU n hts (gt_app (fun w hw => ?_) (gt_in0 Y.1)) rfl rfl rfl hyx ⟨Y.2.2.1, Y.2.2.2.1, hdx⟩ (by subst hRe; exact hfr)) ⟨blind, hR.recv C.2.2.2.2.2.1 hb hci hcl, C.pre hR⟩ rfl hn hlv.1 hst (lv_room hW) hd (C.room hR t1 t2)
  simp only [List.mem_cons, List.not_mem_nil, or_false] at hw
  rcases hw with rfl | rfl | rfl | rfl | rfl
  · exact hl
  · exact hsame
  · exact hsel
  · exact hin
  · exact Y.2.1
theorem r_callS (C : Cx G p R s m args meth c nL cc own n0 s0 fr lo) (hM : MC G y cc' nL' ret fr' lo' h As post) (Y : YL y cc' nL' ret n) (hl : Cond.methodLink own index y ∈ gt) (hin : Cond.static y ∈ gt)
    (hfr : fr' + 1 ≤ fr ∧ 8 + (nL' + 11) + lo' ≤ lo) (hn : As.length = n) (hW : (rest.map fun v => v.category).sum ≤ 8)
    (hd : decode cc pc = .ok (.invokestatic index, 3)) {st0 : List Value} (hst : st0 = As.reverse ++ rest) (kk : ∀ h' v, post h' v → AW G p l e R s m args below meth c nL Q (pc + 3) lv (v.toList ++ rest) h') : AW G p l e R s m args below meth c nL Q pc lv st0 h := by
  have hts := C.2.2.2.2.1
  refine aw_run (aa := As.toArray) (mc := 601024 - aN h) (ms := 7293034 - aS h) (rest := rest) (fun H locs ls hR hlv t1 t2 => ?_) kk
  exact va_runS (Ts := gt) ⟨C.1, C.2.1, C.2.2.1, C.2.2.2.1, hts⟩ (hM l) ⟨C.callB Y hl hfr, hts _ hin⟩ ⟨blind, C.pre hR⟩ rfl hn hlv.1 hst (lv_room hW) hd (C.room hR t1 t2)
theorem r_callI (C : Cx G p R s m args meth c nL cc own n0 s0 fr lo) (hM : MC G y cc' nL' none fr' lo' h (.ref (G.1 + b) :: As) post) (Y : YL y cc' nL' none n) (hl : Cond.methodLink own index y ∈ gt) (hin : Cond.instanceMethod y ∈ gt) (hy1 : y.name = "<init>")
    (hfr : fr' + 1 ≤ fr ∧ 8 + (nL' + 11) + lo' ≤ lo) (hn : As.length = n) (hW : (rest.map fun v => v.category).sum ≤ 8)
    (hd : decode cc pc = .ok (.invokespecial index, 3)) {st0 : List Value} (hst : st0 = As.reverse ++ .ref (G.1 + b) :: rest) (kk : ∀ h' v, post h' v → AW G p l e R s m args below meth c nL Q (pc + 3) lv (v.toList ++ rest) h') : AW G p l e R s m args below meth c nL Q pc lv st0 h := by
  have hts := C.2.2.2.2.1
  refine aw_run (aa := (Value.ref (G.1 + b) :: As).toArray) (mc := 601024 - aN h) (ms := 7293034 - aS h) (rest := rest) (fun H locs ls hR hlv t1 t2 => ?_) kk
  exact va_runI (Ts := gt) ⟨C.1, C.2.1, C.2.2.1, C.2.2.2.1, hts⟩ (hM l) ⟨C.callB Y hl hfr, hy1, hts _ hin⟩ ⟨blind, C.pre hR⟩ rfl hn hlv.1 hst (lv_room hW) hd (C.room hR t1 t2)
theorem Cx.callN (C : Cx G p R s m args meth c nL cc own n0 s0 fr lo) {host : String} (Y : YL y cc' nL' ret n) (hl : Cond.methodLinkNest own index y host ∈ nestL) (hfr : fr' + 1 ≤ fr ∧ 8 + (nL' + 11) + lo' ≤ lo) {mc ms : Nat} :
    va_CN R s args own index y host cc' nL' ret (Cond.code y cc' nL' ret :: gt) { frames := fr', cells := mc, slots := ms, locals := lo' } mc ms n := by
  have hRe := C.2.2.2.2.2.2.2.2.1
  have hts := C.2.2.2.2.1
  refine ⟨⟨rfl, rfl, by subst hRe; exact hfr.1, by subst hRe; exact hfr.2, pay_in hts (gt_in0 Y.1), List.mem_cons_self⟩, hts _ Y.1, hts _ Y.2.1, ⟨Y.2.2.1, Y.2.2.2.1⟩, fun sig h => ?_, va_Nw.use rfl (C.2.2.2.2.2.2.2.2.2.2 _ hl)⟩
  have h2 := Y.2.2.2.2
  rw [h] at h2
  exact (Option.some.inj h2).symm
theorem r_callSN (C : Cx G p R s m args meth c nL cc own n0 s0 fr lo) {host : String} (hM : MC G y cc' nL' ret fr' lo' h As post) (Y : YL y cc' nL' ret n) (hl : Cond.methodLinkNest own index y host ∈ nestL) (hin : Cond.static y ∈ gt)
    (hfr : fr' + 1 ≤ fr ∧ 8 + (nL' + 11) + lo' ≤ lo) (hn : As.length = n) (hW : (rest.map fun v => v.category).sum ≤ 8)
    (hd : decode cc pc = .ok (.invokestatic index, 3)) {st0 : List Value} (hst : st0 = As.reverse ++ rest) (kk : ∀ h' v, post h' v → AW G p l e R s m args below meth c nL Q (pc + 3) lv (v.toList ++ rest) h') : AW G p l e R s m args below meth c nL Q pc lv st0 h := by
  have hts := C.2.2.2.2.1
  refine aw_run (aa := As.toArray) (mc := 601024 - aN h) (ms := 7293034 - aS h) (rest := rest) (fun H locs ls hR hlv t1 t2 => ?_) kk
  exact va_runSN (Ts := gt) ⟨C.1, C.2.1, C.2.2.1, C.2.2.2.1, hts⟩ (hM l) ⟨C.callN Y hl hfr, hts _ hin, trivial⟩ ⟨blind, C.pre hR⟩ rfl hn hlv.1 hst (lv_room hW) hd (C.room hR t1 t2)
theorem r_callIN (C : Cx G p R s m args meth c nL cc own n0 s0 fr lo) {host : String} (hM : MC G y cc' nL' none fr' lo' h (.ref (G.1 + b) :: As) post) (Y : YL y cc' nL' none n) (hl : Cond.methodLinkNest own index y host ∈ nestL) (hin : Cond.instanceMethod y ∈ gt) (hy1 : y.name = "<init>")
    (hfr : fr' + 1 ≤ fr ∧ 8 + (nL' + 11) + lo' ≤ lo) (hn : As.length = n) (hW : (rest.map fun v => v.category).sum ≤ 8)
    (hd : decode cc pc = .ok (.invokespecial index, 3)) {st0 : List Value} (hst : st0 = As.reverse ++ .ref (G.1 + b) :: rest) (kk : ∀ h' v, post h' v → AW G p l e R s m args below meth c nL Q (pc + 3) lv (v.toList ++ rest) h') : AW G p l e R s m args below meth c nL Q pc lv st0 h := by
  have hts := C.2.2.2.2.1
  refine aw_run (aa := (Value.ref (G.1 + b) :: As).toArray) (mc := 601024 - aN h) (ms := 7293034 - aS h) (rest := rest) (fun H locs ls hR hlv t1 t2 => ?_) kk
  exact va_runIN (Ts := gt) ⟨C.1, C.2.1, C.2.2.1, C.2.2.2.1, hts⟩ (hM l) ⟨C.callN Y hl hfr, hy1, hts _ hin⟩ ⟨blind, C.pre hR⟩ rfl hn hlv.1 hst (lv_room hW) hd (C.room hR t1 t2)
theorem r_objInit (C : Cx G p R s m args meth c nL cc own n0 s0 fr lo) (hl : Cond.methodLink own index objectInit ∈ gt) (hin : Cond.instanceMethod objectInit ∈ gt) (hco : Cond.code objectInit ⟨#[0xb1]⟩ 1 none ∈ gt) (hd : decode cc pc = .ok (.invokespecial index, 3))
    (hfr : 1 ≤ fr ∧ (st.map fun v => v.category).sum + 12 ≤ lo) {v : Nat} (kk : AW G p l e R s m args below meth c nL Q (pc + 3) lv st h) : AW G p l e R s m args below meth c nL Q pc lv (.ref v :: st) h := by
  intro H locs cells slots ls hR hlo hlv
  have hts := C.2.2.2.2.1
  have hRe := C.2.2.2.2.2.2.2.2.1
  refine W.objInit C.1 C.2.1 C.2.2.2.1 (hts _ hl) (hts _ hin) (hts _ hco) rfl (by rw [C.2.2.1]; exact hlv.1) rfl hd (by subst hRe; exact hfr.1) (by subst hRe; show 2 * 0 + _ + 12 ≤ lo; have := hfr.2; omega) ?_
  exact kk H locs cells slots ls hR hlo hlv
end RC
