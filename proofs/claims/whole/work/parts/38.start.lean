theorem tw1 {w : Cond} (h : w ∈ tables_1_1) : w ∈ lw_tbl := List.mem_append_right _ (show w ∈ tables_1 from List.mem_append_left _ h)
theorem tw2 {w : Cond} (h : w ∈ tables_1_2) : w ∈ lw_tbl := List.mem_append_right _ (show w ∈ tables_1 from List.mem_append_right _ (List.mem_append_left _ h))
theorem tw3 {w : Cond} (h : w ∈ tables_1_3) : w ∈ lw_tbl := List.mem_append_right _ (show w ∈ tables_1 from List.mem_append_right _ (List.mem_append_right _ (List.mem_append_left _ h)))
theorem tw4 {w : Cond} (h : w ∈ tables_1_4) : w ∈ lw_tbl := List.mem_append_right _ (show w ∈ tables_1 from List.mem_append_right _ (List.mem_append_right _ (List.mem_append_right _ (List.mem_append_left _ h))))
theorem tw5 {w : Cond} (h : w ∈ tables_1_5) : w ∈ lw_tbl := List.mem_append_right _ (show w ∈ tables_1 from List.mem_append_right _ (List.mem_append_right _ (List.mem_append_right _ (List.mem_append_right _ (List.mem_append_left _ h)))))
theorem tw6 {w : Cond} (h : w ∈ tables_1_6) : w ∈ lw_tbl := List.mem_append_right _ (show w ∈ tables_1 from List.mem_append_right _ (List.mem_append_right _ (List.mem_append_right _ (List.mem_append_right _ (List.mem_append_right _ (List.mem_append_left _ h))))))
theorem tw7 {w : Cond} (h : w ∈ tables_1_7) : w ∈ lw_tbl := List.mem_append_right _ (show w ∈ tables_1 from List.mem_append_right _ (List.mem_append_right _ (List.mem_append_right _ (List.mem_append_right _ (List.mem_append_right _ (List.mem_append_right _ (List.mem_append_left _ h)))))))
theorem tw8 {w : Cond} (h : w ∈ tables_1_8) : w ∈ lw_tbl := List.mem_append_right _ (show w ∈ tables_1 from List.mem_append_right _ (List.mem_append_right _ (List.mem_append_right _ (List.mem_append_right _ (List.mem_append_right _ (List.mem_append_right _ (List.mem_append_right _ (List.mem_append_left _ h))))))))
theorem tw9 {w : Cond} (h : w ∈ tables_1_9) : w ∈ lw_tbl := List.mem_append_right _ (show w ∈ tables_1 from List.mem_append_right _ (List.mem_append_right _ (List.mem_append_right _ (List.mem_append_right _ (List.mem_append_right _ (List.mem_append_right _ (List.mem_append_right _ (List.mem_append_right _ (h)))))))))
/-- a private method of a class above, selected on an object of a class below -/
theorem sel_up {D : String} {x0 y0 y : MethodName} {s : State} {args : Array Value} (h0 : (Cond.selects D x0 y0).before args s = true) (hc : y0.cls = y.cls) (hy : y.cls ≠ "java/lang/invoke/MethodHandle" ∧ y.cls ≠ "java/lang/invoke/VarHandle")
    (hp : (Cond.privateMethod y).before args s = true) (hi : (Cond.instanceMethod y).before args s = true) : (Cond.selects D y y).before args s = true := by
  obtain ⟨d, r, n, e1, -, e3, -, k, hk, hki⟩ := Cond.selects_spec h0
  obtain ⟨f, mt, hn, hm, -, -⟩ := Cond.instanceMethod_spec hi
  have hf : s.methodFound? y.cls y.name y.desc = some f := State.methodFound?_of_named hn hy
  have hcl : f.cls = n.cls := Option.some.inj ((findClass_of_methodNamed hn).symm.trans (hc ▸ findClass_of_methodNamed e3))
  have hs : selectMethod {} s.vm d f = .method f := selectMethod_private hm (Cond.privateMethod_at hp f mt hn hm)
  simp only [Cond.before, Cond.holds, Cond.value, e1, hf, hn, hs, hcl, hk]
  simp; exact hki
section START
variable {args : Array Value} {s : State}
theorem xsel_ok (hts : ∀ w ∈ lw_tbl, w.before args s = true) : ∀ w ∈ xsel, w.before args s = true := by
  unfold xsel
  simp only [List.forall_mem_cons, List.not_mem_nil, false_implies, implies_true, and_true]
  exact ⟨sel_up (hts _ (tw3 (List.mem_of_getElem? (i := 145) rfl))) rfl ⟨by decide, by decide⟩ (hts _ (tw3 (List.mem_of_getElem? (i := 149) rfl))) (hts _ (tw3 (List.mem_of_getElem? (i := 150) rfl))), sel_up (hts _ (tw3 (List.mem_of_getElem? (i := 146) rfl))) rfl ⟨by decide, by decide⟩ (hts _ (tw3 (List.mem_of_getElem? (i := 149) rfl))) (hts _ (tw3 (List.mem_of_getElem? (i := 150) rfl))), sel_up (hts _ (tw3 (List.mem_of_getElem? (i := 145) rfl))) rfl ⟨by decide, by decide⟩ (hts _ (tw3 (List.mem_of_getElem? (i := 153) rfl))) (hts _ (tw3 (List.mem_of_getElem? (i := 154) rfl))), sel_up (hts _ (tw3 (List.mem_of_getElem? (i := 146) rfl))) rfl ⟨by decide, by decide⟩ (hts _ (tw3 (List.mem_of_getElem? (i := 153) rfl))) (hts _ (tw3 (List.mem_of_getElem? (i := 154) rfl)))⟩
theorem gt_ok (hts : ∀ w ∈ lw_tbl, w.before args s = true) : ∀ w ∈ gt, w.before args s = true := fun w hw => by
  rcases gt_tbl w hw with h | h
  · exact xsel_ok hts w h
  · exact hts w h
theorem NW_ok (hts : ∀ w ∈ lw_tbl, w.before args s = true) : NW s := by
  unfold NW nestL
  simp only [List.forall_mem_cons, List.not_mem_nil, false_implies, implies_true, and_true]
  exact ⟨va_Nw.of rfl (hts _ (tw1 (List.mem_of_getElem? (i := 36) rfl))), va_Nw.of rfl (hts _ (tw1 (List.mem_of_getElem? (i := 100) rfl))), va_Nw.of rfl (hts _ (tw1 (List.mem_of_getElem? (i := 137) rfl))), va_Nw.of rfl (hts _ (tw2 (List.mem_of_getElem? (i := 73) rfl))), va_Nw.of rfl (hts _ (tw2 (List.mem_of_getElem? (i := 103) rfl))), va_Nw.of rfl (hts _ (tw2 (List.mem_of_getElem? (i := 116) rfl))), va_Nw.of rfl (hts _ (tw3 (List.mem_of_getElem? (i := 226) rfl))), va_Nw.of rfl (hts _ (tw4 (List.mem_of_getElem? (i := 58) rfl)))⟩
theorem nseB_ok (hts : ∀ w ∈ lw_tbl, w.before args s = true) : ∀ w ∈ nseB, va_Nw w s := by
  unfold nseB
  simp only [List.forall_mem_cons, List.not_mem_nil, false_implies, implies_true, and_true]
  exact ⟨va_Nw.of rfl (hts _ (tw6 (List.mem_of_getElem? (i := 110) rfl))), va_Nw.of rfl (hts _ (tw6 (List.mem_of_getElem? (i := 112) rfl))), va_Nw.of rfl (hts _ (tw6 (List.mem_of_getElem? (i := 114) rfl))), va_Nw.of rfl (hts _ (tw6 (List.mem_of_getElem? (i := 109) rfl)))⟩
theorem D_ok (hts : ∀ w ∈ lw_tbl, w.before args s = true) : ∃ D : va_G, ∀ (c : Nat) (q : vw_C), vwCl[c]? = some q → u_Kn s q.1 q.2.1 q.2.2 (D.1 c) (D.2 c) := by
  have hg := gt_ok hts
  obtain ⟨c0, i0, k0⟩ := u_known (C := RX0) (T := TX0) (N := 9) (n := 9) hg lay0 (hts _ (tw2 (List.mem_of_getElem? (i := 196) rfl)))
  obtain ⟨c1, i1, k1⟩ := u_known (C := RX1) (T := TX1) (N := 16) (n := 16) hg lay1 (hts _ (tw1 (List.mem_of_getElem? (i := 93) rfl)))
  obtain ⟨c2, i2, k2⟩ := u_known (C := RX2) (T := TX2) (N := 14) (n := 14) hg lay2 (hts _ (tw1 (List.mem_of_getElem? (i := 35) rfl)))
  obtain ⟨c3, i3, k3⟩ := u_known (C := RX3) (T := TX3) (N := 15) (n := 15) hg lay3 (hts _ (tw2 (List.mem_of_getElem? (i := 72) rfl)))
  obtain ⟨c4, i4, k4⟩ := u_known (C := RX4) (T := TX4) (N := 6) (n := 6) hg lay4 (hts _ (tw1 (List.mem_of_getElem? (i := 99) rfl)))
  obtain ⟨c5, i5, k5⟩ := u_known (C := RX5) (T := TX5) (N := 5) (n := 5) hg lay5 (hts _ (tw2 (List.mem_of_getElem? (i := 102) rfl)))
  obtain ⟨c6, i6, k6⟩ := u_known (C := RX6) (T := TX6) (N := 15) (n := 15) hg lay6 (hts _ (tw2 (List.mem_of_getElem? (i := 190) rfl)))
  obtain ⟨c7, i7, k7⟩ := u_known (C := RX8) (T := TX8) (N := 3) (n := 3) hg lay7 (hts _ (tw2 (List.mem_of_getElem? (i := 110) rfl)))
  obtain ⟨c8, i8, k8⟩ := u_known (C := RX9) (T := TX9) (N := 6) (n := 6) hg lay8 (hts _ (tw2 (List.mem_of_getElem? (i := 158) rfl)))
  obtain ⟨c9, i9, k9⟩ := u_known (C := RX10) (T := TX10) (N := 5) (n := 5) hg lay9 (hts _ (tw1 (List.mem_of_getElem? (i := 136) rfl)))
  obtain ⟨c10, i10, k10⟩ := u_known (C := RX11) (T := TX11) (N := 15) (n := 15) hg lay10 (hts _ (tw1 (List.mem_of_getElem? (i := 27) rfl)))
  obtain ⟨c11, i11, k11⟩ := u_known (C := RX12) (T := TX12) (N := 53) (n := 53) hg lay11 (hts _ (tw6 (List.mem_of_getElem? (i := 188) rfl)))
  refine ⟨(fun c => match c with | 0 => c0 | 1 => c1 | 2 => c2 | 3 => c3 | 4 => c4 | 5 => c5 | 6 => c6 | 7 => c7 | 8 => c8 | 9 => c9 | 10 => c10 | _ => c11, fun c => match c with | 0 => i0 | 1 => i1 | 2 => i2 | 3 => i3 | 4 => i4 | 5 => i5 | 6 => i6 | 7 => i7 | 8 => i8 | 9 => i9 | 10 => i10 | _ => i11), fun c q hq => ?_⟩
  match c, hq with
  | 0, hq => cases hq; exact k0
  | 1, hq => cases hq; exact k1
  | 2, hq => cases hq; exact k2
  | 3, hq => cases hq; exact k3
  | 4, hq => cases hq; exact k4
  | 5, hq => cases hq; exact k5
  | 6, hq => cases hq; exact k6
  | 7, hq => cases hq; exact k7
  | 8, hq => cases hq; exact k8
  | 9, hq => cases hq; exact k9
  | 10, hq => cases hq; exact k10
  | 11, hq => cases hq; exact k11
  | c + 12, hq => exact absurd hq (by show ¬ (([] : List vw_C)[c]? = some q); simp)
theorem arrP_ok {ty : FieldType} (h : (Cond.arrayClass ty).before args s = true) : ∃ c : ClassId, ArrOfT s c ty ∧ s.vm.findClass ("[" ++ ty.toString) = some c := by
  obtain ⟨c, k, comp, f1, f2, f3⟩ := Cond.arrayClass_spec (args := args) (first := s) (o := none) (s := s) (idx := []) h
  exact ⟨c, fun N z => ⟨(fun k h => by cases h), k, f2, comp, f3⟩, f1⟩
theorem arrS_ok {C : String} (h : (Cond.arrayOver (.object C)).before args s = true) : ∃ c : ClassId, ArrOfT s c (.object C) ∧ va_RA s c (.object C) := by
  obtain ⟨comp, c, k, f0, -, f2, f3, f4⟩ := Cond.arrayOver_spec (args := args) (first := s) (o := none) (s := s) (idx := []) h
  exact ⟨c, fun N z => ⟨(fun k h => by cases h), k, f2, comp, f3⟩, k, comp, f2, f3, f0, f4⟩
abbrev stm : Term := .string "RaftTown$Text" 19
abbrev stv : Term := .field stm "java/lang/String" "value" "[B"
theorem str_ok (hg : (Jvm.Cond.and given_1 narrow_1).before args s = true) : ∃ adK adV : Nat → Nat, vk_S 1 [96] [stb] adK adV (fun q => s.heap.size ≤ q) s s.heap ∧ ∀ i : Nat, i < 1 → stm.eval args s none [] s = some (.ref (adK i)) := by
  have hs := flat_of_before _ hg
  refine vk_Sof (tm := fun _ => stm) (fun i hi => ?_) (fun i hi => hs _ (by decide +kernel)) (fun i hi => hs _ (by decide +kernel)) (fun i hi => hs _ (by decide +kernel)) (fun i hi => ?_) (fun i hi j hj => ?_) (fun i j hi hj hij => absurd (by omega) hij) (fun a h1 h2 => Nat.not_le.mpr h1 h2)
  · obtain rfl : i = 0 := by omega
    decide
  · obtain rfl : i = 0 := by omega
    exact hs _ (by decide +kernel)
  · obtain rfl : i = 0 := by omega
    have hall : ∀ j : Nat, j < 96 → Cond.eq (.elem stv (.int (Int32.ofNat j))) (.int (([stb].getD 0 []).getD j 0)) ∈ flatC (Jvm.Cond.and given_1 narrow_1) := by decide +kernel
    exact hs _ (hall j hj)
def h00 : AH := (0, 0, fun _ => 17, fun _ => 0, fun _ _ => 0, fun _ _ => 0, fun _ _ => none)

/-- the claim's walk, from the entry, out of the pure fact -/
theorem whole_start0 {p : Program} {e : Env} {m : MethodId} {below : List Frame} {meth : Method} {c : Code} (l : Launch) (hlt : l.stackTraces = false) {b L : Nat} {xs : Nat → Int32} (PL : wp_L_law h00 xs L) (C0 : lw_At p s m meth c b L xs) : W p l e room_1 s m #[Value.ref b] below meth c s.heap [] 0 0 (lw_Z below #[Value.ref b] s) (entryFrame m ([Value.ref b] : List Value).toArray 7) := by
  obtain ⟨hex, hcd, hrt, hml, hown, hts, hX, hbl, hlk, hgv⟩ := C0
  have hs := flat_of_before _ hgv
  obtain ⟨D, hD⟩ := D_ok hts
  obtain ⟨cB, aB, fB⟩ := arrP_ok (hts _ (tw1 (List.mem_of_getElem? (i := 132) rfl)))
  obtain ⟨cI, aI', fI⟩ := arrP_ok (hts _ (tw1 (List.mem_of_getElem? (i := 133) rfl)))
  obtain ⟨cJ, aJ', fJ⟩ := arrP_ok (hts _ (tw1 (List.mem_of_getElem? (i := 134) rfl)))
  obtain ⟨cZ, aZ, fZ⟩ := arrP_ok (hts _ (tw7 (List.mem_of_getElem? (i := 142) rfl)))
  obtain ⟨cS, aS', fS⟩ := arrS_ok (hts _ (tw2 (List.mem_of_getElem? (i := 154) rfl)))
  obtain ⟨adK, adV, hS, hK⟩ := str_ok hgv
  have hA : ∀ a : Nat, a < s.heap.size → ¬ s.heap.size ≤ a := fun a h1 h2 => Nat.not_le.mpr h1 h2
  obtain ⟨G, hG⟩ : ∃ G : GG, G = (s.heap.size, s.heap, D, fun k => match k with | 12 => cB | 13 => cI | 14 => cJ | 15 => cZ | 16 => cS | 20 => adK 0 | _ => adV 0) := ⟨_, rfl⟩
  have hVK : va_K G.2.2.1 vwCl (tyA G) s := by
    subst hG
    refine ⟨hD, fun k q hk => ?_⟩
    match k, hk with
    | 0, hk => cases hk; exact ⟨aB, fB⟩
    | 1, hk => cases hk; exact ⟨aI', fI⟩
    | 2, hk => cases hk; exact ⟨aJ', fJ⟩
    | 3, hk => cases hk; exact ⟨aZ, fZ⟩
    | 4, hk => cases hk; exact ⟨aS', fS⟩
    | k + 5, hk => exact absurd hk (by show ¬ (([] : List (ClassId × FieldType))[k]? = some q); simp)
  have hSX : SX G s := by
    subst hG
    obtain ⟨s1, s2, s3, s4⟩ := hS.1 0 (by omega)
    exact ⟨vk_R.of (hts _ (tw1 (List.mem_of_getElem? (i := 43) rfl))) (hK 0 (by omega)), s1, s2, s3, s4, va_Zof (hts _ (tw1 (List.mem_of_getElem? (i := 53) rfl))) (hts _ (tw1 (List.mem_of_getElem? (i := 4) rfl))) (va_eqt (hs _ (by decide +kernel))) hA,
      va_Zqof (hts _ (tw1 (List.mem_of_getElem? (i := 69) rfl))) (hts _ (tw1 (List.mem_of_getElem? (i := 6) rfl))) (hs _ (by decide +kernel)) hA, va_AO.of (hts _ (tw2 (List.mem_of_getElem? (i := 154) rfl)))⟩
  have hXE : XE G s := by
    subst hG
    exact ⟨nseB_ok hts, vx_Zqof (hts _ (tw6 (List.mem_of_getElem? (i := 134) rfl))) (hts _ (tw1 (List.mem_of_getElem? (i := 20) rfl))) (hs _ (by decide +kernel)) hA, vx_Zqof (hts _ (tw6 (List.mem_of_getElem? (i := 136) rfl))) (hts _ (tw1 (List.mem_of_getElem? (i := 20) rfl))) (hs _ (by decide +kernel)) hA⟩
  have g1 : G.1 = s.heap.size := by rw [hG]
  have g2 : G.2.1 = s.heap := by rw [hG]
  have hRep : Rep G h00 s.heap := ⟨fun a ha _ => absurd ha (Nat.not_lt_zero a), g1.symm, by rw [g2]; rfl, by rw [g1, g2], fun q _ => by rw [g2], Nat.zero_le _, Nat.zero_le _⟩
  have hC : Cx G p room_1 s m #[Value.ref b] meth c 7 cL_law RL 0 0 10 362 := ⟨hex, hcd, hml, hown, gt_ok hts, hVK, g1.symm, by rw [g2]; rfl, rfl, hlk, NW_ok hts⟩
  have hl := lv_entry (n := 7) [Value.ref b] (Nat.le_of_ble_eq_true rfl)
  rw [lg_entry_eq]
  exact c_L_law hC hrt hlt hSX hXE (by rw [g2]; exact hX) (by rw [g1]; exact hbl) PL s.heap [] 0 0 _ hRep (fun q hq => by cases hq) hl
end START
set_option maxHeartbeats 4000000 in
theorem lw_walk (PL : ∀ (xs : Nat → Int32) (L : Nat), L ≤ 3072 → wp_L_law h00 xs L) (l : Launch) (hlt : l.stackTraces = false) (b : Addr) (xs : List Int32) : MetFree l x (headSpec (Jvm.Cond.code x code maxLocals ret :: tables_1) room_1) (lw_P b xs) (fun _ _ _ _ _ => True) lw_Q := by
  refine MetFree.of_bodyS (code := code) (maxLocals := maxLocals) (ret := ret) (by decide) ?_ ?_
  · intro args s m h hn
    obtain ⟨meth, c, h1, h2, h3, h4, h5, h6, -, -⟩ := Cond.code_spec hn (atoms_spec (ws := Jvm.Cond.code x code maxLocals ret :: tables_1) h _ List.mem_cons_self)
    exact ⟨meth, c, h1, h2, h3, h4, h5, h6⟩
  · intro p e s m args below meth c s₁ B hml0 hP _
    obtain ⟨rfl, hx, hbd, hgv⟩ := hP
    obtain ⟨scr, harrAt, hlist, hof, hsmall⟩ := hx
    obtain ⟨hcb, hkn, -, -⟩ := State.arrayAt?_spec harrAt
    have hown : s.vm.findClass R_law = some m.cls := findClass_of_methodNamed B.named
    have hts0 : ∀ c ∈ (Jvm.Cond.code x code maxLocals ret :: tables_1), c.before #[Value.ref b] s = true := atoms_spec (ws := Jvm.Cond.code x code maxLocals ret :: tables_1) B.pre
    have hts : ∀ w ∈ lw_tbl, w.before #[Value.ref b] s = true := k2_hts_sels lw_privs (fun w hw => hts0 w (List.mem_cons_of_mem _ hw)) lw_privs_ok
    have hml : c.maxLocals = 7 := B.maxLocals_eq (hts0 _ List.mem_cons_self)
    have X₀ : Stand p l e room_1 s m #[Value.ref b] below meth c s₁ [] 0 0 := Stand.of_body B
    have hh0 : s₁.heap = s.heap := by rw [B.state]; rfl
    have hsz : scr.slots.size = xs.length := by rw [← Array.length_toList, hlist, List.length_map]
    have hval : ∀ j : Nat, j < xs.length → scr.slots[j]? = some (.int (xs.getD j 0)) := fun j hj => by
      rw [← Array.getElem?_toList, hlist]
      simp [hj]
    have hbl : b < s.heap.size := (Array.getElem?_eq_some_iff.mp hcb).1
    have hX : va_X b xs.length (fun j => xs.getD j 0) s s.heap := ⟨scr, hcb, hof, hkn, hsz, hval⟩
    have K : W p l e room_1 s m #[Value.ref b] below meth c s₁.heap [] 0 0 (lw_Z below #[Value.ref b] s) (entryFrame m ([Value.ref b] : List Value).toArray 7) := by
      rw [hh0]
      exact whole_start0 l hlt (PL _ _ hbd) ⟨B.exec, B.bytes, B.returns, hml, hown, hts, hX, hbl, B.notSynchronized, hgv⟩
    obtain ⟨t, a1, o, b1, b2, b3⟩ := K s₁ rfl X₀
    exact ⟨t, o, a1, b1, b2, b3⟩
theorem lw_pre_spec {args : Array Value} {s : State} (h : (Jvm.Cond.and given_1 narrow_1).before args s = true) (hr : rest_1_c.before args s = true) : ∃ (b : Addr) (xs : List Int32), lw_P b xs args s := by
  have hs := flat_of_before _ h
  have hq := flat_of_before _ hr
  have hc : (Cond.count 1).before args s = true := hs _ (by decide +kernel)
  have harr : (Cond.arrayOf (.arg 0) .int).before args s = true := hs _ (by decide +kernel)
  have hle : (Cond.le (.length (.arg 0)) (.int 3072)).before args s = true := hs _ (by decide +kernel)
  have hlen : (Cond.isInt (.length (.arg 0))).before args s = true := hq _ (by decide +kernel)
  have hall : (Cond.all (.arg 0) (.isInt (.elem (.arg 0) (.index 0)))).before args s = true := hq _ (by decide +kernel)
  obtain ⟨b, xs, hb, hx⟩ := State.ints_of_pre rfl harr hlen hall
  have hsm : xs.length < 2 ^ 31 := hx.choose_spec.2.2.2
  have hev : (Term.length (.arg 0)).eval args s none [] s = some (.int xs.length.toInt32) := hx.length_eval hb
  have hv := Cond.le_ints hev (show (Term.int 3072).eval args s none [] s = some (.int 3072) from rfl)
  have hd : xs.length.toInt32 ≤ 3072 := by
    simpa [Cond.before, Cond.holds, hv] using hle
  have hN : xs.length ≤ 3072 := (Int32.ofNat_le_ofNat hsm (by decide)).mp (show Int32.ofNat xs.length ≤ Int32.ofNat 3072 from hd)
  exact ⟨b, xs, Cond.one_arg hc (show args[0]? = some (.ref b) from hb), hx, hN, h⟩
theorem lw_comes (PL : ∀ (xs : Nat → Int32) (L : Nat), L ≤ 3072 → wp_L_law h00 xs L) (l : Launch) (hlt : l.stackTraces = false) : Comes l x (Jvm.Cond.code x code maxLocals ret :: tables_1) room_1 (fun tb e args s => Calls_1 tb e args s ∧ rest_1 tb e args s ∧ Pre_1 tb e args s)
    (fun _ _ args s o t => lw_Q args s o t) := by
  intro p e ha hc hk s m args below hf hfit hheap happ hpre
  obtain ⟨b, xs, hP⟩ := lw_pre_spec hpre.2.2 hpre.2.1
  obtain ⟨k, o, h1, h2, h3, hQ⟩ := lw_walk PL l hlt b xs p e ha hc hk s m args below hf ((Spec.applies_iff_loose hf).mp happ).1 hP trivial
  exact ⟨k, o, h1, h2, h3, hQ⟩
theorem lw_frame {s t : State} {o : Outcome} {args : Array Value} (h : Framed s o t [] 601024 7293034) :
    Framed s o t (fieldLocs frame_1_writes args s ++ arrayLocs frame_1_arrays args s ++ staticLocs frame_1_statics s) 601024 7293034 := h
theorem lw_limb (PL : ∀ (xs : Nat → Int32) (L : Nat), L ≤ 3072 → wp_L_law h00 xs L) (L : Cond) (hL : ∀ (args : Array Value) (s t : State), L.after args s (.returned (some (.int 1))) t = true) :
    ArmFor flags0 classFile x code maxLocals ret World_1 tables_1 room_1 Calls_1 rest_1 Pre_1
      (fun tb e a s o t => postC L tb e a s o t ∧ Framed s o t (fieldLocs frame_1_writes a s ++ arrayLocs frame_1_arrays a s ++ staticLocs frame_1_statics s) 601024 7293034) := by
  intro l hfl _ _ p e ha hc hk s m args below hf hfit hheap happ hpre
  obtain ⟨k, o, h1, h2, h3, rfl, hF⟩ := lw_comes PL l (by unfold Launch.stackTraces; rw [hfl]; decide +kernel) p e ha hc hk s m args below hf hfit hheap happ hpre
  exact ⟨k, _, h1, h2, h3, hL args s _, lw_frame hF⟩
theorem i_vc_of (PL : ∀ (xs : Nat → Int32) (L : Nat), L ≤ 3072 → wp_L_law h00 xs L) : Claimed_1_1 ∧ Claimed_1_2 := ⟨lw_limb PL limb_1_1 (fun args s t => by simp [limb_1_1, Cond.after, Cond.holds, Cond.value]), lw_limb PL limb_1_2 (fun args s t => Cond.after_iff.mpr (by
  first | (rw [show limb_1_2 = Cond.eq .result (.int 1) from rfl, Cond.eq_ints (x := 1) (y := 1) rfl rfl]; simp; done) | (simp [limb_1_2, Cond.value, Term.eval]; done)))⟩
