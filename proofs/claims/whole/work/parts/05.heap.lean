/-! a class's number, table and words; a field's link -/
def CI (ci : Nat) (Cn : String) (T : u_T) (N : Nat) : Prop := vwCl[ci]? = some (Cn, T, N) ∧ ci < 12 ∧ cN ci = N ∧ (∀ w ∈ u_ws Cn T N, w ∈ gt) ∧ (∀ k, k < N → parseFieldDescriptor (T k).2.2.1 = some (cTy ci k)) ∧ (∀ a, a < N → ∀ b, b < N → a ≠ b → (T a).2.1 ≠ (T b).2.1)
def FL (own : String) (index ci k : Nat) : Prop := ∃ (Cn ref : String) (T : u_T) (N : Nat), CI ci Cn T N ∧ k < N ∧ Cond.fieldLink own index ref (T k).2.1 (T k).2.2.1 ∈ gt ∧ (ref = (T k).1 ∨ Cond.sameField ref (T k).1 (T k).2.1 (T k).2.2.1 ∈ gt)
def FP (own : String) (index ci k : Nat) : Prop := ∃ (Cn ref : String) (T : u_T) (N : Nat), CI ci Cn T N ∧ k < N ∧ Cond.fieldLink own index ref (T k).2.1 (T k).2.2.1 ∈ gt ∧ (ref = (T k).1 ∨ Cond.sameField ref (T k).1 (T k).2.1 (T k).2.2.1 ∈ gt) ∧ (T k).2.2.2 = false
def FF (own : String) (index ci k : Nat) : Prop := ∃ (Cn ref : String) (T : u_T) (N : Nat), CI ci Cn T N ∧ k < N ∧ Cond.fieldLink own index ref (T k).2.1 (T k).2.2.1 ∈ gt ∧ (ref = (T k).1 ∨ Cond.sameField ref (T k).1 (T k).2.1 (T k).2.2.1 ∈ gt) ∧ (T k).2.2.2 = true ∧ (T k).1 = own
theorem EE_obj {G : GG} {h : AH} {a ci : Nat} (hk : aK h a = ci) (hc : ci < 12) : EE G h a = .inr (ci, fvs G.1 h a ci) := by
  unfold EE
  rw [hk, if_pos hc]
theorem EE_I {G : GG} {h : AH} {a k : Nat} (hk : aK h a = k) (hc : k = 12 ∨ k = 13 ∨ k = 15) : EE G h a = .inl (G.2.2.2 k, aL h a, .inl (aI h a)) := by
  unfold EE
  rw [hk, if_neg (by omega), if_neg (by omega), if_neg (by omega)]
theorem EE_J {G : GG} {h : AH} {a : Nat} (hk : aK h a = 14) : EE G h a = .inl (G.2.2.2 14, aL h a, .inr (.inl (aJ h a))) := by
  unfold EE
  rw [hk, if_neg (by omega), if_pos rfl]
theorem EE_P {G : GG} {h : AH} {a : Nat} (hk : aK h a = 16) : EE G h a = .inl (G.2.2.2 16, aL h a, .inr (.inr (.inr (.inr fun i => (aP h a i).map fun x => G.1 + x)))) := by
  unfold EE
  rw [hk, if_neg (by omega), if_neg (by omega), if_pos rfl]
theorem va_P1 {D : va_G} {cl : List vw_C} {q : Nat × va_E} {H : Heap} (h : va_at D cl q H) : va_P D cl [q] H := by
  intro k q' hk
  match k, hk with
  | 0, hk => cases hk; exact h
theorem fvs_get {b : Nat} {h : AH} {a c k : Nat} (hk : k < cN c) : (fvs b h a c)[k]? = some (fv b (cTy c k) (aI h a k) (aJ h a k) (aP h a k)) := by
  simp [fvs, hk]
theorem fvs_set {b : Nat} {h h' : AH} {a c k : Nat} {v : Value} (hk : k < cN c) (h1 : ∀ j, j ≠ k → fv b (cTy c j) (aI h' a j) (aJ h' a j) (aP h' a j) = fv b (cTy c j) (aI h a j) (aJ h a j) (aP h a j))
    (h2 : fv b (cTy c k) (aI h' a k) (aJ h' a k) (aP h' a k) = v) : fvs b h' a c = (fvs b h a c).set k v := by
  apply List.ext_getElem?
  intro j
  by_cases hj : j = k
  · subst hj
    rw [fvs_get hk, h2]
    simp [fvs, hk]
  · rw [List.getElem?_set_ne (fun q => hj q.symm)]
    by_cases hl : j < cN c
    · rw [fvs_get hl, fvs_get hl, h1 j hj]
    · simp [fvs, hl]
theorem hsame_of {args : Array Value} {s : State} {ref O n d : String} (hts : ∀ w ∈ gt, w.before args s = true) (hs : ref = O ∨ Cond.sameField ref O n d ∈ gt) : ∀ x, s.fieldFound? O n d = some x → s.fieldFound? ref n d = some x := by
  intro x hx
  rcases hs with rfl | hs
  · exact hx
  · exact u_same (hts _ hs) x hx
section RH
variable {G : GG} {p : Program} {l : Launch} {e : Env} {R : Room} {s : State} {m : MethodId} {args : Array Value} {below : List Frame} {meth : Method} {c : Code} {nL : Nat} {Q : State → Prop} {cc : ByteArray} {own : String} {n0 s0 fr lo : Nat}
  {pc : Nat} {lv : List (Nat × Value)} {st : List Value} {h h' : AH} {a k ci index : Nat}
theorem r_getv (C : Cx G p R s m args meth c nL cc own n0 s0 fr lo) (F : FL own index ci k) (hk : aK h a = ci ∧ a < aN h) {v : Value} (hv : fv G.1 (cTy ci k) (aI h a k) (aJ h a k) (aP h a k) = v) (hd : decode cc pc = .ok (.getfield index, 3))
    (kk : AW G p l e R s m args below meth c nL Q (pc + 3) lv (v :: st) h) : AW G p l e R s m args below meth c nL Q pc lv (.ref (G.1 + a) :: st) h := by
  obtain ⟨Cn, ref, T, N, ⟨c1, c2, c3, c4, c5, c6⟩, hkN, hl1, hl2⟩ := F
  intro H locs cells slots ls hR hlo hl
  have hat := hR.1 a hk.2 (by omega)
  rw [EE_obj hk.1 c2] at hat
  exact va_get (ws := [(G.1 + a, .inr (ci, fvs G.1 h a ci))]) C.1 C.2.1 C.2.2.2.2.1 c4 C.2.2.2.1 C.2.2.2.2.2.1 (va_P1 hat) 0 rfl c1 k hkN (C.2.2.2.2.1 _ hl1) (hsame_of C.2.2.2.2.1 hl2) (by rw [fvs_get (by omega), hv]) hd (kk H locs cells slots ls hR hlo hl)
theorem r_getP (C : Cx G p R s m args meth c nL cc own n0 s0 fr lo) (F : FL own index ci k) (hk : aK h a = ci ∧ a < aN h) {r : Nat} (hp : aP h a k = some r) (hv : ∀ i j q, fv G.1 (cTy ci k) i j q = va_rf (q.map fun x => G.1 + x)) (hd : decode cc pc = .ok (.getfield index, 3))
    (kk : AW G p l e R s m args below meth c nL Q (pc + 3) lv (.ref (G.1 + r) :: st) h) : AW G p l e R s m args below meth c nL Q pc lv (.ref (G.1 + a) :: st) h :=
  r_getv C F hk (by rw [hv, hp]; rfl) hd kk
theorem r_getPN (C : Cx G p R s m args meth c nL cc own n0 s0 fr lo) {Cn ref host : String} {T : u_T} {N : Nat} (F : CI ci Cn T N) (hkN : k < N) (hl1 : Cond.fieldLinkNest own index ref (T k).2.1 (T k).2.2.1 host ∈ nestL) (hl2 : ref = (T k).1) (hk : aK h a = ci ∧ a < aN h) {r : Nat} (hp : aP h a k = some r) (hv : ∀ i j q, fv G.1 (cTy ci k) i j q = va_rf (q.map fun x => G.1 + x)) (hd : decode cc pc = .ok (.getfield index, 3))
    (kk : AW G p l e R s m args below meth c nL Q (pc + 3) lv (.ref (G.1 + r) :: st) h) : AW G p l e R s m args below meth c nL Q pc lv (.ref (G.1 + a) :: st) h := by
  obtain ⟨c1, c2, c3, c4, c5, c6⟩ := F
  intro H locs cells slots ls hR hlo hl
  have hat := hR.1 a hk.2 (by omega)
  rw [EE_obj hk.1 c2] at hat
  exact va_getN (ws := [(G.1 + a, .inr (ci, fvs G.1 h a ci))]) C.1 C.2.1 C.2.2.2.2.1 c4 C.2.2.2.1 C.2.2.2.2.2.1 (va_P1 hat) 0 rfl c1 k hkN (va_Nw.use rfl (C.2.2.2.2.2.2.2.2.2.2 _ hl1)) (hsame_of C.2.2.2.2.1 (Or.inl hl2)) (by rw [fvs_get (by omega), hv, hp]; rfl) hd (kk H locs cells slots ls hR hlo hl)
theorem setSlot_size (cell : Cell) (i : Nat) (v : Value) : (cell.setSlot i v).slots.size = cell.slots.size := by simp [Cell.setSlot]
theorem locs_snoc {locs : List Loc} {b a i : Nat} (h : ∀ q ∈ locs, b ≤ q.base) (ha : b ≤ a) : ∀ q ∈ locs ++ [(⟨a, i⟩ : Loc)], b ≤ q.base := by
  intro q hq
  rcases List.mem_append.mp hq with hq | hq
  · exact h q hq
  · rw [List.mem_singleton.mp hq]; exact ha
theorem r_putv (C : Cx G p R s m args meth c nL cc own n0 s0 fr lo) (F : FP own index ci k) (hk : aK h a = ci ∧ a < aN h) {v : Value} (hn : narrow (cTy ci k) v = v) (hfit : fits (cTy ci k) v = true)
    (hN : aN h' = aN h) (hS : aS h' = aS h) (hK : aK h' = aK h) (hE : ∀ b, b ≠ a → EE G h' b = EE G h b) (hf : fvs G.1 h' a ci = (fvs G.1 h a ci).set k v) (hd : decode cc pc = .ok (.putfield index, 3))
    (kk : AW G p l e R s m args below meth c nL Q (pc + 3) lv st h') : AW G p l e R s m args below meth c nL Q pc lv (v :: .ref (G.1 + a) :: st) h := by
  obtain ⟨Cn, ref, T, N, ⟨c1, c2, c3, c4, c5, c6⟩, hkN, hl1, hl2, hfin⟩ := F
  intro H locs cells slots ls hR hlo hl
  have hts := C.2.2.2.2.1
  have hKK := C.2.2.2.2.2.1
  have hap := va_apart (own := own) hts c4 _ c5 c6 hKK c1
  have hat := hR.1 a hk.2 (by omega)
  rw [EE_obj hk.1 c2] at hat
  obtain ⟨r, h1, cell, q1, q2, q3, q4⟩ := hat
  have hr : r = (Cn, T, N) := Option.some.inj (h1.symm.trans c1)
  subst hr
  obtain ⟨hS9, hfc, kC, hkC, hkind⟩ := hKK.1 ci _ c1
  obtain ⟨cf, kf, fi, f, hi, hsl⟩ := hS9 k hkN
  have hlay := hts _ (c4 _ (u_in_lay hkN))
  unfold u_lay at hlay
  rw [if_neg (by rw [hfin]; decide)] at hlay
  have hst := (u_facts hfc hkC (u_lays hts c4 hkN) hi).1
  have h6 := u_store hfc hkC hkind hlay hi (c5 k hkN) hn hfit
  refine W.putK C.1 C.2.1 (f := f) ⟨C.2.2.2.1, hts _ hl1, ⟨_, _, _, hsame_of hts hl2 _ hi⟩, hst⟩ (by rw [q2]; exact h6) q1 q3 (by rw [hsl]; exact k2_hasslot (q4 k hkN)) rfl rfl hd fun H' e1 e2 e3 => ?_
  refine kk H' _ cells slots ls (hR.store hk.2 (by omega) ?_ e2 q1 e1 (setSlot_size _ _ _) e3 hN hS hK hE) (locs_snoc hlo (Nat.le_add_right _ _)) hl
  rw [EE_obj (by rw [hK]; exact hk.1) c2, hf]
  rw [hsl] at e1
  exact ⟨_, c1, t_OB.to (V := updV (vp_V (fvs G.1 h a ci)) k v) ⟨_, e1, q2, q3, t_set q4 hap hkN v⟩ (fun j _ => vp_updV_set (by simp [fvs]; omega) v j)⟩
theorem r_putF (C : Cx G p R s m args meth c nL cc own n0 s0 fr lo) (F : FF own index ci k) (hnm : meth.name = "<init>") (hk : aK h a = ci ∧ a < aN h) {v : Value} (hn : narrow (cTy ci k) v = v) (hfit : fits (cTy ci k) v = true)
    (hN : aN h' = aN h) (hS : aS h' = aS h) (hK : aK h' = aK h) (hE : ∀ b, b ≠ a → EE G h' b = EE G h b) (hf : fvs G.1 h' a ci = (fvs G.1 h a ci).set k v) (hd : decode cc pc = .ok (.putfield index, 3))
    (kk : AW G p l e R s m args below meth c nL Q (pc + 3) lv st h') : AW G p l e R s m args below meth c nL Q pc lv (v :: .ref (G.1 + a) :: st) h := by
  obtain ⟨Cn, ref, T, N, ⟨c1, c2, c3, c4, c5, c6⟩, hkN, hl1, hl2, hfin, hdecl⟩ := F
  intro H locs cells slots ls hR hlo hl
  have hts := C.2.2.2.2.1
  have hKK := C.2.2.2.2.2.1
  have hap := va_apart (own := own) hts c4 _ c5 c6 hKK c1
  have hat := hR.1 a hk.2 (by omega)
  rw [EE_obj hk.1 c2] at hat
  obtain ⟨r, h1, cell, q1, q2, q3, q4⟩ := hat
  have hr : r = (Cn, T, N) := Option.some.inj (h1.symm.trans c1)
  subst hr
  obtain ⟨hS9, hfc, kC, hkC, hkind⟩ := hKK.1 ci _ c1
  obtain ⟨cf, kf, fi, f, hi, hsl⟩ := hS9 k hkN
  have hlay := hts _ (c4 _ (u_in_lay hkN))
  unfold u_lay at hlay
  rw [if_pos hfin] at hlay
  have hst := (u_facts hfc hkC (u_lays hts c4 hkN) hi).1
  have hcf : m.cls = cf := by
    obtain ⟨_, _, c', _, _, _, -, -, hf', -, -, -, hown2, -⟩ := Cond.laysFinal_spec hlay
    have e1 : c' = cf := by have := hi.symm.trans hf'; simp at this; exact this.1.symm
    rw [hdecl] at hown2
    rw [← e1]; exact Option.some.inj (C.2.2.2.1.symm.trans hown2)
  have h6 := u_fits hfc hkC hkind (Or.inr hlay) hi (c5 k hkN) hn hfit
  refine W.putFinK C.1 C.2.1 C.2.2.2.1 (hts _ hl1) (hsame_of hts hl2 _ hi) hst hcf hnm (by rw [q2]; exact h6) q1 q3 (by rw [hsl]; exact k2_hasslot (q4 k hkN)) rfl rfl hd fun H' e1 e2 e3 => ?_
  refine kk H' _ cells slots ls (hR.store hk.2 (by omega) ?_ e2 q1 e1 (setSlot_size _ _ _) e3 hN hS hK hE) (locs_snoc hlo (Nat.le_add_right _ _)) hl
  rw [EE_obj (by rw [hK]; exact hk.1) c2, hf]
  rw [hsl] at e1
  exact ⟨_, c1, t_OB.to (V := updV (vp_V (fvs G.1 h a ci)) k v) ⟨_, e1, q2, q3, t_set q4 hap hkN v⟩ (fun j _ => vp_updV_set (by simp [fvs]; omega) v j)⟩
theorem fvs_hI {x : Int32} (hk : k < cN ci) (ht : ∀ i j q, fv G.1 (cTy ci k) i j q = .int i) : fvs G.1 (hI h a k x) a ci = (fvs G.1 h a ci).set k (.int x) := by
  refine fvs_set hk (fun j hj => ?_) ?_
  · have e1 : aI (hI h a k x) a j = aI h a j := by show va_up (aI h) a _ a j = _; rw [up_s]; exact pk_un hj
    rw [e1]; rfl
  · rw [ht]
    show Value.int (va_up (aI h) a _ a k) = _
    rw [up_s, pk_us]
theorem fvs_hJ {x : Int64} (hk : k < cN ci) (ht : ∀ i j q, fv G.1 (cTy ci k) i j q = .long j) : fvs G.1 (hJ h a k x) a ci = (fvs G.1 h a ci).set k (.long x) := by
  refine fvs_set hk (fun j hj => ?_) ?_
  · have e1 : aJ (hJ h a k x) a j = aJ h a j := by show va_up (aJ h) a _ a j = _; rw [up_s]; exact pk_uLn hj
    rw [e1]; rfl
  · rw [ht]
    show Value.long (va_up (aJ h) a _ a k) = _
    rw [up_s, pk_uLs]
theorem fvs_hP {r : Nat} (hk : k < cN ci) (ht : ∀ i j q, fv G.1 (cTy ci k) i j q = va_rf (q.map fun x => G.1 + x)) : fvs G.1 (hP h a k r) a ci = (fvs G.1 h a ci).set k (.ref (G.1 + r)) := by
  refine fvs_set hk (fun j hj => ?_) ?_
  · have e1 : aP (hP h a k r) a j = aP h a j := by show va_up (aP h) a _ a j = _; rw [up_s]; exact up_n hj
    rw [e1]; rfl
  · rw [ht]
    show va_rf ((va_up (aP h) a _ a k).map _) = _
    rw [up_s, up_s]; rfl
end RH
