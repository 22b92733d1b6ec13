theorem FP.lt {own : String} {index ci k : Nat} (F : FP own index ci k) : k < cN ci := by
  obtain ⟨_, _, _, _, ⟨_, _, c3, _⟩, hk, _⟩ := F
  omega
theorem FF.lt {own : String} {index ci k : Nat} (F : FF own index ci k) : k < cN ci := by
  obtain ⟨_, _, _, _, ⟨_, _, c3, _⟩, hk, _⟩ := F
  omega
theorem fits_refv {t : FieldType} {b r : Nat} (ht : ∀ i j q, fv b t i j q = va_rf (q.map fun x => b + x)) : narrow t (.ref (b + r)) = .ref (b + r) ∧ fits t (.ref (b + r)) = true := by
  have h := ht 0 0 none
  cases t <;> simp [fv, va_rf] at h <;> exact ⟨rfl, rfl⟩
theorem bool_nar {x : Int32} (hz : x = 0 ∨ x = 1) : narrow .boolean (.int x) = .int x ∧ fits .boolean (.int x) = true := by
  rcases hz with rfl | rfl <;> exact ⟨rfl, rfl⟩
section RM
variable {G : GG} {p : Program} {l : Launch} {e : Env} {R : Room} {s : State} {m : MethodId} {args : Array Value} {below : List Frame} {meth : Method} {c : Code} {nL : Nat} {Q : State → Prop} {cc : ByteArray} {own : String} {n0 s0 fr lo : Nat}
  {pc : Nat} {lv : List (Nat × Value)} {st : List Value} {h h' : AH} {a k ci index : Nat}
theorem r_getI (C : Cx G p R s m args meth c nL cc own n0 s0 fr lo) (F : FL own index ci k) (hk : aK h a = ci ∧ a < aN h) (hv : ∀ i j q, fv G.1 (cTy ci k) i j q = .int i) (hd : decode cc pc = .ok (.getfield index, 3))
    (kk : AW G p l e R s m args below meth c nL Q (pc + 3) lv (.int (aI h a k) :: st) h) : AW G p l e R s m args below meth c nL Q pc lv (.ref (G.1 + a) :: st) h := r_getv C F hk (hv _ _ _) hd kk
theorem r_getJ (C : Cx G p R s m args meth c nL cc own n0 s0 fr lo) (F : FL own index ci k) (hk : aK h a = ci ∧ a < aN h) (hv : ∀ i j q, fv G.1 (cTy ci k) i j q = .long j) (hd : decode cc pc = .ok (.getfield index, 3))
    (kk : AW G p l e R s m args below meth c nL Q (pc + 3) lv (.long (aJ h a k) :: st) h) : AW G p l e R s m args below meth c nL Q pc lv (.ref (G.1 + a) :: st) h := r_getv C F hk (hv _ _ _) hd kk
theorem r_putI (C : Cx G p R s m args meth c nL cc own n0 s0 fr lo) (F : FP own index ci k) (hk : aK h a = ci ∧ a < aN h) {x : Int32} (ht : cTy ci k = .int) (hd : decode cc pc = .ok (.putfield index, 3))
    (kk : AW G p l e R s m args below meth c nL Q (pc + 3) lv st (hI h a k x)) : AW G p l e R s m args below meth c nL Q pc lv (.int x :: .ref (G.1 + a) :: st) h :=
  r_putv (h' := hI h a k x) C F hk (by rw [ht]; rfl) (by rw [ht]; rfl) rfl rfl rfl (fun b hb => EE_hRI hb) (fvs_hI F.lt (fun _ _ _ => by rw [ht]; rfl)) hd kk
theorem r_putZ (C : Cx G p R s m args meth c nL cc own n0 s0 fr lo) (F : FP own index ci k) (hk : aK h a = ci ∧ a < aN h) {x : Int32} (hz : x = 0 ∨ x = 1) (ht : cTy ci k = .boolean) (hd : decode cc pc = .ok (.putfield index, 3))
    (kk : AW G p l e R s m args below meth c nL Q (pc + 3) lv st (hI h a k x)) : AW G p l e R s m args below meth c nL Q pc lv (.int x :: .ref (G.1 + a) :: st) h :=
  r_putv (h' := hI h a k x) C F hk (by rw [ht]; exact (bool_nar hz).1) (by rw [ht]; exact (bool_nar hz).2) rfl rfl rfl (fun b hb => EE_hRI hb) (fvs_hI F.lt (fun _ _ _ => by rw [ht]; rfl)) hd kk
theorem r_putJ (C : Cx G p R s m args meth c nL cc own n0 s0 fr lo) (F : FP own index ci k) (hk : aK h a = ci ∧ a < aN h) {x : Int64} (ht : cTy ci k = .long) (hd : decode cc pc = .ok (.putfield index, 3))
    (kk : AW G p l e R s m args below meth c nL Q (pc + 3) lv st (hJ h a k x)) : AW G p l e R s m args below meth c nL Q pc lv (.long x :: .ref (G.1 + a) :: st) h :=
  r_putv (h' := hJ h a k x) C F hk (by rw [ht]; rfl) (by rw [ht]; rfl) rfl rfl rfl (fun b hb => EE_hRJ hb) (fvs_hJ F.lt (fun _ _ _ => by rw [ht]; rfl)) hd kk
theorem r_putP (C : Cx G p R s m args meth c nL cc own n0 s0 fr lo) (F : FP own index ci k) (hk : aK h a = ci ∧ a < aN h) {r : Nat} (ht : ∀ i j q, fv G.1 (cTy ci k) i j q = va_rf (q.map fun x => G.1 + x)) (hd : decode cc pc = .ok (.putfield index, 3))
    (kk : AW G p l e R s m args below meth c nL Q (pc + 3) lv st (hP h a k r)) : AW G p l e R s m args below meth c nL Q pc lv (.ref (G.1 + r) :: .ref (G.1 + a) :: st) h :=
  r_putv (h' := hP h a k r) C F hk (fits_refv ht).1 (fits_refv ht).2 rfl rfl rfl (fun b hb => EE_hRP hb) (fvs_hP F.lt ht) hd kk
theorem r_putPF (C : Cx G p R s m args meth c nL cc own n0 s0 fr lo) (F : FF own index ci k) (hnm : meth.name = "<init>") (hk : aK h a = ci ∧ a < aN h) {r : Nat} (ht : ∀ i j q, fv G.1 (cTy ci k) i j q = va_rf (q.map fun x => G.1 + x)) (hd : decode cc pc = .ok (.putfield index, 3))
    (kk : AW G p l e R s m args below meth c nL Q (pc + 3) lv st (hP h a k r)) : AW G p l e R s m args below meth c nL Q pc lv (.ref (G.1 + r) :: .ref (G.1 + a) :: st) h :=
  r_putF (h' := hP h a k r) C F hnm hk (fits_refv ht).1 (fits_refv ht).2 rfl rfl rfl (fun b hb => EE_hRP hb) (fvs_hP F.lt ht) hd kk
/-! arrays -/
theorem r_iaload (C : Cx G p R s m args meth c nL cc own n0 s0 fr lo) {i : Int32} (hk : aK h a = 13 ∧ a < aN h) (hin : vp_in i (aL h a)) (hd : decode cc pc = .ok (.iaload, 1))
    (kk : AW G p l e R s m args below meth c nL Q (pc + 1) lv (.int (aI h a i.toNatClampNeg) :: st) h) : AW G p l e R s m args below meth c nL Q pc lv (.int i :: .ref (G.1 + a) :: st) h := by
  intro H locs cells slots ls hR hlo hl
  have hat := hR.1 a hk.2 (by omega)
  rw [EE_I hk.1 (by omega)] at hat
  exact va_iald (tys := tyA G) C.1 C.2.1 C.2.2.2.2.2.1 (va_P1 hat) 0 1 rfl rfl hin hd (kk H locs cells slots ls hR hlo hl)
theorem r_baload (C : Cx G p R s m args meth c nL cc own n0 s0 fr lo) {i : Int32} (hk : aK h a = 12 ∧ a < aN h) (hin : vp_in i (aL h a)) (hd : decode cc pc = .ok (.baload, 1))
    (kk : AW G p l e R s m args below meth c nL Q (pc + 1) lv (.int (aI h a i.toNatClampNeg) :: st) h) : AW G p l e R s m args below meth c nL Q pc lv (.int i :: .ref (G.1 + a) :: st) h := by
  intro H locs cells slots ls hR hlo hl
  have hat := hR.1 a hk.2 (by omega)
  rw [EE_I hk.1 (by omega)] at hat
  exact va_bald (tys := tyA G) C.1 C.2.1 C.2.2.2.2.2.1 (va_P1 hat) 0 0 rfl rfl hin hd (kk H locs cells slots ls hR hlo hl)
theorem r_zaload (C : Cx G p R s m args meth c nL cc own n0 s0 fr lo) {i : Int32} (hk : aK h a = 15 ∧ a < aN h) (hin : vp_in i (aL h a)) (hd : decode cc pc = .ok (.baload, 1))
    (kk : AW G p l e R s m args below meth c nL Q (pc + 1) lv (.int (aI h a i.toNatClampNeg) :: st) h) : AW G p l e R s m args below meth c nL Q pc lv (.int i :: .ref (G.1 + a) :: st) h := by
  intro H locs cells slots ls hR hlo hl
  have hat := hR.1 a hk.2 (by omega)
  rw [EE_I hk.1 (by omega)] at hat
  exact va_zald (tys := tyA G) C.1 C.2.1 C.2.2.2.2.2.1 (va_P1 hat) 0 3 rfl rfl hin hd (kk H locs cells slots ls hR hlo hl)
theorem r_laload (C : Cx G p R s m args meth c nL cc own n0 s0 fr lo) {i : Int32} (hk : aK h a = 14 ∧ a < aN h) (hin : vp_in i (aL h a)) (hd : decode cc pc = .ok (.laload, 1))
    (kk : AW G p l e R s m args below meth c nL Q (pc + 1) lv (.long (aJ h a i.toNatClampNeg) :: st) h) : AW G p l e R s m args below meth c nL Q pc lv (.int i :: .ref (G.1 + a) :: st) h := by
  intro H locs cells slots ls hR hlo hl
  have hat := hR.1 a hk.2 (by omega)
  rw [EE_J hk.1] at hat
  exact va_lald (tys := tyA G) C.1 C.2.1 C.2.2.2.2.2.1 (va_P1 hat) 0 2 rfl rfl hin hd (kk H locs cells slots ls hR hlo hl)
theorem r_aaload (C : Cx G p R s m args meth c nL cc own n0 s0 fr lo) {i : Int32} (hk : aK h a = 16 ∧ a < aN h) (hin : vp_in i (aL h a)) {r : Nat} (hp : aP h a i.toNatClampNeg = some r) (hd : decode cc pc = .ok (.aaload, 1))
    (kk : AW G p l e R s m args below meth c nL Q (pc + 1) lv (.ref (G.1 + r) :: st) h) : AW G p l e R s m args below meth c nL Q pc lv (.int i :: .ref (G.1 + a) :: st) h := by
  intro H locs cells slots ls hR hlo hl
  have hat := hR.1 a hk.2 (by omega)
  rw [EE_P hk.1] at hat
  have k2 := kk H locs cells slots ls hR hlo hl
  exact va_aldq (tys := tyA G) C.1 C.2.1 C.2.2.2.2.2.1 (va_P1 hat) 0 4 rfl rfl hin hd (by rw [hp]; exact k2)
theorem r_aaloadN (C : Cx G p R s m args meth c nL cc own n0 s0 fr lo) {i : Int32} (hk : aK h a = 16 ∧ a < aN h) (hin : vp_in i (aL h a)) (hp : aP h a i.toNatClampNeg = none) (hd : decode cc pc = .ok (.aaload, 1))
    (kk : AW G p l e R s m args below meth c nL Q (pc + 1) lv (.null :: st) h) : AW G p l e R s m args below meth c nL Q pc lv (.int i :: .ref (G.1 + a) :: st) h := by
  intro H locs cells slots ls hR hlo hl
  have hat := hR.1 a hk.2 (by omega)
  rw [EE_P hk.1] at hat
  have k2 := kk H locs cells slots ls hR hlo hl
  exact va_aldq (tys := tyA G) C.1 C.2.1 C.2.2.2.2.2.1 (va_P1 hat) 0 4 rfl rfl hin hd (by rw [hp]; exact k2)
theorem r_ifnonnull (C : Cx G p R s m args meth c nL cc own n0 s0 fr lo) {x : Nat} {off : Int} (hd : decode cc pc = .ok (.ifnonnull off, 3)) (tgt : Nat) (ht : (pc : Int) + off = (tgt : Int)) (kk : AW G p l e R s m args below meth c nL Q tgt lv st h) : AW G p l e R s m args below meth c nL Q pc lv (.ref x :: st) h :=
  fun H locs cells slots ls hR hlo hl => lv_ifnonnull C.1 C.2.1 hd ht (kk H locs cells slots ls hR hlo hl)
theorem r_ifnonnullN (C : Cx G p R s m args meth c nL cc own n0 s0 fr lo) {off : Int} (hd : decode cc pc = .ok (.ifnonnull off, 3)) (kk : AW G p l e R s m args below meth c nL Q (pc + 3) lv st h) : AW G p l e R s m args below meth c nL Q pc lv (.null :: st) h :=
  fun H locs cells slots ls hR hlo hl => lv_ifnonnullN C.1 C.2.1 hd (kk H locs cells slots ls hR hlo hl)
theorem r_alen (C : Cx G p R s m args meth c nL cc own n0 s0 fr lo) (hk : (aK h a = 12 ∨ aK h a = 13 ∨ aK h a = 14) ∧ a < aN h) (hd : decode cc pc = .ok (.arraylength, 1))
    (kk : AW G p l e R s m args below meth c nL Q (pc + 1) lv (.int (nI (aL h a)) :: st) h) : AW G p l e R s m args below meth c nL Q pc lv (.ref (G.1 + a) :: st) h := by
  intro H locs cells slots ls hR hlo hl
  have hat := hR.1 a hk.2 (by omega)
  have k2 := kk H locs cells slots ls hR hlo hl
  rcases hk.1 with q | q | q
  · rw [EE_I q (by omega)] at hat
    exact va_alen (tys := tyA G) C.1 C.2.1 C.2.2.2.2.2.1 (va_P1 hat) 0 0 rfl (ty := .byte) rfl rfl hd k2
  · rw [EE_I q (by omega)] at hat
    exact va_alen (tys := tyA G) C.1 C.2.1 C.2.2.2.2.2.1 (va_P1 hat) 0 1 rfl (ty := .int) rfl rfl hd k2
  · rw [EE_J q] at hat
    exact va_alen (tys := tyA G) C.1 C.2.1 C.2.2.2.2.2.1 (va_P1 hat) 0 2 rfl (ty := .long) rfl rfl hd k2
theorem arr_ok {C : Prop} {i : Int32} {n : Nat} {cA : ClassId} {f : Nat → Value} (hin : vp_in i n) : ¬ (i < 0 ∨ (arrV cA n f).slots.size ≤ i.toNatClampNeg) := by rw [arrV_size]; exact hin
theorem r_iastore (C : Cx G p R s m args meth c nL cc own n0 s0 fr lo) {i x : Int32} (hk : aK h a = 13 ∧ a < aN h) (hin : vp_in i (aL h a)) (hd : decode cc pc = .ok (.iastore, 1))
    (kk : AW G p l e R s m args below meth c nL Q (pc + 1) lv st (hI h a i.toNatClampNeg x)) : AW G p l e R s m args below meth c nL Q pc lv (.int x :: .int i :: .ref (G.1 + a) :: st) h := by
  intro H locs cells slots ls hR hlo hl
  have hat := hR.1 a hk.2 (by omega)
  rw [EE_I hk.1 (by omega)] at hat
  refine W.iast C.1 C.2.1 hat ((C.2.2.2.2.2.1.2 1 _ rfl).1 (aL h a) (fun j => .int (aI h a j))) (fun q => by cases q) (by show ¬ (i < 0 ∨ (arrV _ _ _).slots.size ≤ _); rw [arrV_size]; exact hin) rfl rfl hd fun H1 e1 z oq => ?_
  refine kk H1 _ cells slots ls (hR.store hk.2 (by omega) ?_ z hat e1 (setSlot_size _ _ _) oq rfl rfl rfl (fun b hb => EE_hRI hb)) (locs_snoc hlo (Nat.le_add_right _ _)) hl
  rw [EE_I (h := hI h a i.toNatClampNeg x) (k := 13) hk.1 (by omega)]
  show H1[G.1 + a]? = some (vp_cell _ _)
  rw [e1, vp_cell_i, vp_cell_i, arrV_store]
  congr 2
  funext q
  show _ = Value.int (va_up (aI h) a _ a q)
  rw [up_s]
  by_cases hq : q = i.toNatClampNeg
  · subst hq; simp [updV, upd]
  · simp [updV, upd, hq]
theorem r_bastore (C : Cx G p R s m args meth c nL cc own n0 s0 fr lo) {i x : Int32} (hk : aK h a = 12 ∧ a < aN h) (hin : vp_in i (aL h a)) (hd : decode cc pc = .ok (.bastore, 1))
    (kk : AW G p l e R s m args below meth c nL Q (pc + 1) lv st (hI h a i.toNatClampNeg (vp_nar .byte x))) : AW G p l e R s m args below meth c nL Q pc lv (.int x :: .int i :: .ref (G.1 + a) :: st) h := by
  intro H locs cells slots ls hR hlo hl
  have hat := hR.1 a hk.2 (by omega)
  rw [EE_I hk.1 (by omega)] at hat
  refine W.bast C.1 C.2.1 hat ((C.2.2.2.2.2.1.2 0 _ rfl).1 (aL h a) (fun j => .int (aI h a j))) (fun q => by cases q) (by show ¬ (i < 0 ∨ (arrV _ _ _).slots.size ≤ _); rw [arrV_size]; exact hin) rfl rfl hd fun H1 e1 z oq => ?_
  refine kk H1 _ cells slots ls (hR.store hk.2 (by omega) ?_ z hat e1 (setSlot_size _ _ _) oq rfl rfl rfl (fun b hb => EE_hRI hb)) (locs_snoc hlo (Nat.le_add_right _ _)) hl
  rw [EE_I (h := hI h a i.toNatClampNeg (vp_nar .byte x)) (k := 12) hk.1 (by omega)]
  show H1[G.1 + a]? = some (vp_cell _ _)
  rw [e1, vp_cell_i, vp_cell_i, arrV_store]
  congr 2
  funext q
  show _ = Value.int (va_up (aI h) a _ a q)
  rw [up_s]
  by_cases hq : q = i.toNatClampNeg
  · subst hq; simp [updV, upd, vp_nar]; try rfl
  · simp [updV, upd, hq]
theorem r_zastore (C : Cx G p R s m args meth c nL cc own n0 s0 fr lo) {i x : Int32} (hk : aK h a = 15 ∧ a < aN h) (hin : vp_in i (aL h a)) (hd : decode cc pc = .ok (.bastore, 1))
    (kk : AW G p l e R s m args below meth c nL Q (pc + 1) lv st (hI h a i.toNatClampNeg (vp_nar .boolean x))) : AW G p l e R s m args below meth c nL Q pc lv (.int x :: .int i :: .ref (G.1 + a) :: st) h := by
  intro H locs cells slots ls hR hlo hl
  have hat := hR.1 a hk.2 (by omega)
  rw [EE_I hk.1 (by omega)] at hat
  refine W.zast C.1 C.2.1 hat ((C.2.2.2.2.2.1.2 3 _ rfl).1 (aL h a) (fun j => .int (aI h a j))) (fun q => by cases q) (by show ¬ (i < 0 ∨ (arrV _ _ _).slots.size ≤ _); rw [arrV_size]; exact hin) rfl rfl hd fun H1 e1 z oq => ?_
  refine kk H1 _ cells slots ls (hR.store hk.2 (by omega) ?_ z hat e1 (setSlot_size _ _ _) oq rfl rfl rfl (fun b hb => EE_hRI hb)) (locs_snoc hlo (Nat.le_add_right _ _)) hl
  rw [EE_I (h := hI h a i.toNatClampNeg (vp_nar .boolean x)) (k := 15) hk.1 (by omega)]
  show H1[G.1 + a]? = some (vp_cell _ _)
  rw [e1, vp_cell_i, vp_cell_i, arrV_store]
  congr 2
  funext q
  show _ = Value.int (va_up (aI h) a _ a q)
  rw [up_s]
  by_cases hq : q = i.toNatClampNeg
  · subst hq; simp [updV, upd, vp_nar]; try rfl
  · simp [updV, upd, hq]
theorem r_lastore (C : Cx G p R s m args meth c nL cc own n0 s0 fr lo) {i : Int32} {x : Int64} (hk : aK h a = 14 ∧ a < aN h) (hin : vp_in i (aL h a)) (hd : decode cc pc = .ok (.lastore, 1))
    (kk : AW G p l e R s m args below meth c nL Q (pc + 1) lv st (hJ h a i.toNatClampNeg x)) : AW G p l e R s m args below meth c nL Q pc lv (.long x :: .int i :: .ref (G.1 + a) :: st) h := by
  intro H locs cells slots ls hR hlo hl
  have hat := hR.1 a hk.2 (by omega)
  rw [EE_J hk.1] at hat
  refine W.last C.1 C.2.1 hat ((C.2.2.2.2.2.1.2 2 _ rfl).1 (aL h a) (fun j => .long (aJ h a j))) (fun q => by cases q) (by show ¬ (i < 0 ∨ (arrV _ _ _).slots.size ≤ _); rw [arrV_size]; exact hin) rfl rfl hd fun H1 e1 z oq => ?_
  refine kk H1 _ cells slots ls (hR.store hk.2 (by omega) ?_ z hat e1 (setSlot_size _ _ _) oq rfl rfl rfl (fun b hb => EE_hRJ hb)) (locs_snoc hlo (Nat.le_add_right _ _)) hl
  rw [EE_J (h := hJ h a i.toNatClampNeg x) hk.1]
  show H1[G.1 + a]? = some (vp_cell _ _)
  rw [e1, vp_cell_l, vp_cell_l, arrV_store]
  congr 2
  funext q
  show _ = Value.long (va_up (aJ h) a _ a q)
  rw [up_s]
  by_cases hq : q = i.toNatClampNeg
  · subst hq; simp [updV, vp_updL]
  · simp [updV, vp_updL, hq]
theorem r_aastore (C : Cx G p R s m args meth c nL cc own n0 s0 fr lo) {i : Int32} {r : Nat} (hk : aK h a = 16 ∧ a < aN h) (hr : aK h r = 5 ∧ r < aN h) (hin : vp_in i (aL h a)) (hd : decode cc pc = .ok (.aastore, 1))
    (kk : AW G p l e R s m args below meth c nL Q (pc + 1) lv st (hP h a i.toNatClampNeg r)) : AW G p l e R s m args below meth c nL Q pc lv (.ref (G.1 + r) :: .int i :: .ref (G.1 + a) :: st) h := by
  intro H locs cells slots ls hR hlo hl
  have hat := hR.1 a hk.2 (by omega)
  rw [EE_P hk.1] at hat
  have har := hR.1 r hr.2 (by omega)
  rw [EE_obj hr.1 (by omega)] at har
  have hKK := C.2.2.2.2.2.1
  have hlt : i.toNatClampNeg < aL h a := Nat.not_le.mp fun q => hin (Or.inr q)
  have h0 : ¬ i < 0 := fun q => hin (Or.inl q)
  obtain ⟨r', hr', cellV, g1, g2, g3, -⟩ := har
  have hcls := (hKK.1 5 (RX5, TX5, 5) rfl).2
  obtain ⟨kA, comp, k1, k2, k3, -⟩ := (hKK.2 4 _ rfl).2
  have hcomp : comp = G.2.2.1.1 5 := Option.some.inj (k3.symm.trans hcls.1)
  subst hcomp
  obtain ⟨kC, hkC, -⟩ := hcls.2
  refine W.aast C.1 C.2.1 hat (fun q h => by cases h) (fun h => by cases h) k1 k2 rfl hkC ⟨h0, by show _ < (arrV _ _ _).slots.size; rw [arrV_size]; exact hlt⟩ g1 (fun q h => by rw [g3] at h; cases h) (by rw [g2]; exact hkC) (by rw [g2]; exact va_assign hcls) rfl rfl hd fun H1 e1 z oq => ?_
  refine kk H1 _ cells slots ls (hR.store hk.2 (by omega) ?_ z hat e1 (setSlot_size _ _ _) oq rfl rfl rfl (fun b hb => EE_hRP hb)) (locs_snoc hlo (Nat.le_add_right _ _)) hl
  rw [EE_P (h := hP h a i.toNatClampNeg r) hk.1]
  show H1[G.1 + a]? = some (vp_cell _ _)
  rw [e1, vp_cell_q, vp_cell_q, arrV_store]
  congr 2
  funext q
  show _ = va_rf ((va_up (aP h) a _ a q).map _)
  rw [up_s]
  by_cases hq : q = i.toNatClampNeg
  · subst hq; simp [updV, va_up, va_rf]
  · simp [updV, va_up, hq]
end RM
