/-! LINES of the class: rope -/
section ROP
variable {h h1 h2 h' h0 : AH} {fr tx ci tb la : Nat} {postV : AH → Prop} {post : AH → Int32 → Prop} {postJ : AH → Int64 → Prop} {a b c d r x y n m p f fa q e k i lo hi v w td ra rb re : Int} {T s : Int → Int} {l : List Int} {N : Int → List Int}
theorem c_wideT {x2 : Int32} (H : LB h la) (h1 : 0 ≤ r) (h2 : r < 8) (K : ∀ v : Int32, post h v) : wp_X1_wideAt h la (iI r) x2 post := by
  unfold wp_X1_wideAt
  have e : vp_in (iI r) 8 := iI_in (by omega) (by omega) (by omega)
  refine ⟨fun _ => ⟨H.o0, _, H.p8, H.o6, ?_, K _⟩, fun _ => ⟨H.o0, _, H.p7, H.o5, ?_, K _⟩⟩
  · rw [H.l6]; exact e
  · rw [H.l5]; exact e
theorem c_highT {x2 : Int32} (H : LB h la) (h1 : 0 ≤ r) (h2 : r < 8) (K : ∀ v : Int32, post h v) : wp_X1_highAt h la (iI r) x2 post := by
  unfold wp_X1_highAt
  have e : vp_in (iI r) 8 := iI_in (by omega) (by omega) (by omega)
  refine ⟨fun _ => ⟨H.o0, _, H.p7, H.o5, ?_, K _⟩, fun _ => ⟨H.o0, _, H.p8, H.o6, ?_, K _⟩⟩
  · rw [H.l5]; exact e
  · rw [H.l6]; exact e
theorem c_betweenT {x2 x4 : Int32} (H : LB h la) (h1 : 0 ≤ a) (h2 : a < 8) (h3 : 0 ≤ b) (h4 : b < 8) (K : ∀ v : Int32, post h v) : wp_X1_between h la (iI a) x2 (iI b) x4 post := by
  unfold wp_X1_between
  intro _ _ _ _ _ _ _ _
  exact ⟨H.o0, c_wideT H h1 h2 fun _ => ⟨H.o0, c_wideT H h3 h4 fun _ _ _ => ⟨H.o0, c_highT H h1 h2 fun _ => ⟨H.o0, c_highT H h3 h4 fun _ _ _ => K _⟩⟩⟩⟩
theorem c_reachOf (H : LB h la) (L : LR h la s) (s4 : 0 ≤ s 4 ∧ s 4 ≤ 8) (hk : ∀ k, 0 ≤ k → k < s 4 → (0 ≤ s (135 + 4 * k) ∧ s (135 + 4 * k) < 8) ∧ (0 ≤ s (135 + 4 * k + 1) ∧ s (135 + 4 * k + 1) < 8) ∧ 0 ≤ s (135 + 4 * k + 2) ∧ s (135 + 4 * k + 2) < 99) (h1 : 0 ≤ a) (h2 : a < 8) (h3 : 0 ≤ b) (h4 : b < 8) (K0 : ¬ ropd s a b → post h (iI 99)) (K1 : ropd s a b → ∀ v : Int, 0 ≤ v → v < 99 → post h (iI v)) : wp_X4_reachOf h (la + 10) (iI a) (iI b) post := by
  unfold wp_X4_reachOf
  rw [show (0 : Int32) = iI 0 from rfl]
  have q0 := L.q0
  refine (lp_fst (W := fun n i => wl_X4_reachOf_2 post n h (la + 10) (iI a) (iI b) (iI i)) (P := fun k => (s (135 + 4 * k) = a ∧ s (135 + 4 * k + 1) = b) ∨ (s (135 + 4 * k) = b ∧ s (135 + 4 * k + 1) = a)) (lo := 0) (hi := s 4) (E := fun v => post h (iI (if v = -1 then 99 else s (135 + 4 * v + 2)))) s4.1 (fun _ => id) (fun n i i0 i1 => ?_) (fun n => ?_)).mpr ?_
  · show wb_X4_reachOf_2 (wl_X4_reachOf_2 post n) h (la + 10) (iI a) (iI b) (iI i) post ↔ _
    obtain ⟨k1, k2, k3⟩ := hk i i0 i1
    have ro := L.ro i i0 i1
    have rp := L.rp i i0 i1
    have rq := L.rq i i0 i1
    rw [if_neg (show ¬ i = -1 by omega)]
    unfold wb_X4_reachOf_2 wb_X4_reachOf_30 wb_X4_reachOf_50 wb_X4_reachOf_57
    simp (disch := omega) only [LB.o10 H, LB.q10_1 H, LB.o11 H, LB.l11 H, LB.q10_2 H, LB.o12 H, LB.l12 H, LB.q10_3 H, LB.o13 H, LB.l13 H, fd0, fd1, fd2, fd3, fd4, fd5, fd6, fd7, fd8, fd9, fd10, fd11, fd12, fd13, fd14, fd15, fd16, fd17, fd18, fd19, fd20, fd21, fd22, fd23, fd24, fd25, fd26, fd27, fd28, fd29, fd30, fd31, fd32, fd33, fd34, fd35, fd36, fd37, fd38, fd39, fd40, fd41, fd42, fd43, fd44, fd45, fd46, fd47, fd48, fd49, fd50, fd51, fd52, q0, ro, rp, rq, -Int.reduceToNat, -Int32.reduceToNatClampNeg, il0, il1, il2, il3, il4, il5, il6, il7, il8, il9, il10, il11, il12, il13, il14, il15, il16, il17, il18, il19, il20, il21, il22, il23, il24, il25, il26, il27, il28, il29, il30, il31, il32, il35, il36, il38, il40, il42, il43, il44, il45, il46, il47, il48, il49, il50, il51, il52, il57, il59, il60, il63, il64, il75, il80, il95, il96, il97, il98, il99, il100, il120, il122, il123, il127, il128, il135, il167, il175, il225, il249, il250, il255, il256, il360, il370, il384, il600, il700, il740, il900, il940, il1024, il1600, il4800, il64000, il125000, il262143, il1000000000, iI_toInt, iI_add, iI_sub, iI_mul, iI_neg, iI_lt, iI_le, iI_eq, iI_n, iI_in, iI_div, iI_mod, iI_shm, iI_and1, iI_and7, iI_and63, iI_shr3, iI_shr6, rd_I, ob, Option.some.injEq, exists_eq_left', exists_eq_left, true_and, and_true, fqI, fqJ, eq_self, true_or, or_true, bP_0, bP_0i, npP, bP_1i, bP_b, not_true_eq_false, not_false_eq_true, false_implies, true_implies, implies_true, Classical.not_not, and_self, cP, cP', ite_n, ite_f]
    by_cases c1 : s (135 + 4 * i) = a
    · rw [ite_t c1]
      by_cases c2 : s (135 + 4 * i + 1) = b
      · rw [ite_t c2, ite_t (Or.inl ⟨c1, c2⟩)]
      · rw [ite_f c2]
        by_cases c3 : s (135 + 4 * i) = b
        · rw [ite_t c3]
          by_cases c4 : s (135 + 4 * i + 1) = a
          · rw [ite_t c4, ite_t (Or.inr ⟨c3, c4⟩)]
          · rw [ite_f c4, ite_f (by omega)]
        · rw [ite_f c3, ite_f (by omega)]
    · rw [ite_f c1]
      by_cases c3 : s (135 + 4 * i) = b
      · rw [ite_t c3]
        by_cases c4 : s (135 + 4 * i + 1) = a
        · rw [ite_t c4, ite_t (Or.inr ⟨c3, c4⟩)]
        · rw [ite_f c4, ite_f (by omega)]
      · rw [ite_f c3, ite_f (by omega)]
  · show wb_X4_reachOf_2 (wl_X4_reachOf_2 post n) h (la + 10) (iI a) (iI b) (iI (s 4)) post ↔ _
    rw [if_pos rfl]
    unfold wb_X4_reachOf_2
    simp (disch := omega) only [LB.o10 H, fd0, fd1, fd2, fd3, fd4, fd5, fd6, fd7, fd8, fd9, fd10, fd11, fd12, fd13, fd14, fd15, fd16, fd17, fd18, fd19, fd20, fd21, fd22, fd23, fd24, fd25, fd26, fd27, fd28, fd29, fd30, fd31, fd32, fd33, fd34, fd35, fd36, fd37, fd38, fd39, fd40, fd41, fd42, fd43, fd44, fd45, fd46, fd47, fd48, fd49, fd50, fd51, fd52, q0, -Int.reduceToNat, -Int32.reduceToNatClampNeg, il0, il1, il2, il3, il4, il5, il6, il7, il8, il9, il10, il11, il12, il13, il14, il15, il16, il17, il18, il19, il20, il21, il22, il23, il24, il25, il26, il27, il28, il29, il30, il31, il32, il35, il36, il38, il40, il42, il43, il44, il45, il46, il47, il48, il49, il50, il51, il52, il57, il59, il60, il63, il64, il75, il80, il95, il96, il97, il98, il99, il100, il120, il122, il123, il127, il128, il135, il167, il175, il225, il249, il250, il255, il256, il360, il370, il384, il600, il700, il740, il900, il940, il1024, il1600, il4800, il64000, il125000, il262143, il1000000000, iI_toInt, iI_add, iI_sub, iI_mul, iI_neg, iI_lt, iI_le, iI_eq, iI_n, iI_in, iI_div, iI_mod, iI_shm, iI_and1, iI_and7, iI_and63, iI_shr3, iI_shr6, rd_I, ob, Option.some.injEq, exists_eq_left', exists_eq_left, true_and, and_true, fqI, fqJ, eq_self, true_or, or_true, bP_0, bP_0i, npP, bP_1i, bP_b, not_true_eq_false, not_false_eq_true, false_implies, true_implies, implies_true, Classical.not_not, and_self, cP, cP', ite_n, ite_t]
  · rw [show s 4 - 0 = s 4 by omega]
    rcases fstI_spec (P := fun k => (s (135 + 4 * k) = a ∧ s (135 + 4 * k + 1) = b) ∨ (s (135 + 4 * k) = b ∧ s (135 + 4 * k + 1) = a)) (s 4).toNat 0 (by omega) with ⟨u1, u2⟩ | ⟨u1, u2, u3, u4⟩
    · rw [u1, if_pos rfl]
      exact K0 fun ⟨k, k0, k1, k2⟩ => u2 k k0 (by omega) k2
    · rw [if_neg (by omega)]
      have := hk _ u1 (by omega)
      exact K1 ⟨_, u1, by omega, u3⟩ _ this.2.2.1 this.2.2.2
theorem c_rope109 (R : RD T n m h 2 2 3 f fa p a) (C : CL h fr s N td) (B : BA s td) (h4 : f = 0 → s 4 < 8) (ba : 0 ≤ ra ∧ ra < 8) (bb : 0 ≤ rb ∧ rb < 8) (br : 0 ≤ re ∧ re ≤ 9) (K : ∀ h', CO T n m fr h h' (iteP (f = 0) (nuS T n m 1 99 p fun ho q4 => okR (ropU s ra rb re ho) N td q4) (bdR f fa)) → postV h') : wb_X2_readRope_109 h 2 (iI ra) (iI rb) (iI re) postV := by
  unfold wb_X2_readRope_109
  refine ⟨R.o, ?_⟩
  rw [show (1 : Int32) = iI 1 from rfl, show (99 : Int32) = iI 99 from rfl]
  refine c_readNumber R (by omega) (by omega) fun g f1 fa1 p1 a1 v t Rg NR => ?_
  rw [NR.st] at K
  have O := Rg.o
  have b := rd_bd g 2 10
  have sf := Rg.sf
  have Cg := C.tf t
  have vr := NR.rng
  by_cases cf : f1 = 0
  · have H := Cg.H
    have p12 := Cg.ft
    have w0 := Cg.L.q0
    have hfr := Cg.f5
    obtain ⟨bb0, bb1, bb2, bb3, bb4, bb5⟩ := B.bds
    have h4 := h4 (NR.ok cf).1
    simp (disch := omega) only [O, fd0, fd1, fd2, fd3, fd4, fd5, fd6, fd7, fd8, fd9, fd10, fd11, fd12, fd13, fd14, fd15, fd16, fd17, fd18, fd19, fd20, fd21, fd22, fd23, fd24, fd25, fd26, fd27, fd28, fd29, fd30, fd31, fd32, fd33, fd34, fd35, fd36, fd37, fd38, fd39, fd40, fd41, fd42, fd43, fd44, fd45, fd46, fd47, fd48, fd49, fd50, fd51, fd52, sf, cf, p12, LB.o0 H, LB.p14 H, LB.o10 H, -Int.reduceToNat, -Int32.reduceToNatClampNeg, il0, il1, il2, il3, il4, il5, il6, il7, il8, il9, il10, il11, il12, il13, il14, il15, il16, il17, il18, il19, il20, il21, il22, il23, il24, il25, il26, il27, il28, il29, il30, il31, il32, il35, il36, il38, il40, il42, il43, il44, il45, il46, il47, il48, il49, il50, il51, il52, il57, il59, il60, il63, il64, il75, il80, il95, il96, il97, il98, il99, il100, il120, il122, il123, il127, il128, il135, il167, il175, il225, il249, il250, il255, il256, il360, il370, il384, il600, il700, il740, il900, il940, il1024, il1600, il4800, il64000, il125000, il262143, il1000000000, iI_toInt, iI_add, iI_sub, iI_mul, iI_neg, iI_lt, iI_le, iI_eq, iI_n, iI_in, iI_div, iI_mod, iI_shm, iI_and1, iI_and7, iI_and63, iI_shr3, iI_shr6, rd_I, ob, Option.some.injEq, exists_eq_left', exists_eq_left, true_and, and_true, fqI, fqJ, eq_self, true_or, or_true, bP_0, bP_0i, npP, bP_1i, bP_b, not_true_eq_false, not_false_eq_true, false_implies, true_implies, implies_true, Classical.not_not, and_self, cP, cP', ite_n, ite_t]
    unfold wp_X4_add
    simp (disch := omega) only [fd0, fd1, fd2, fd3, fd4, fd5, fd6, fd7, fd8, fd9, fd10, fd11, fd12, fd13, fd14, fd15, fd16, fd17, fd18, fd19, fd20, fd21, fd22, fd23, fd24, fd25, fd26, fd27, fd28, fd29, fd30, fd31, fd32, fd33, fd34, fd35, fd36, fd37, fd38, fd39, fd40, fd41, fd42, fd43, fd44, fd45, fd46, fd47, fd48, fd49, fd50, fd51, fd52, w0, LB.o10 H, LB.q10_1 H, LB.o11 H, LB.l11 H, -Int.reduceToNat, -Int32.reduceToNatClampNeg, il0, il1, il2, il3, il4, il5, il6, il7, il8, il9, il10, il11, il12, il13, il14, il15, il16, il17, il18, il19, il20, il21, il22, il23, il24, il25, il26, il27, il28, il29, il30, il31, il32, il35, il36, il38, il40, il42, il43, il44, il45, il46, il47, il48, il49, il50, il51, il52, il57, il59, il60, il63, il64, il75, il80, il95, il96, il97, il98, il99, il100, il120, il122, il123, il127, il128, il135, il167, il175, il225, il249, il250, il255, il256, il360, il370, il384, il600, il700, il740, il900, il940, il1024, il1600, il4800, il64000, il125000, il262143, il1000000000, iI_toInt, iI_add, iI_sub, iI_mul, iI_neg, iI_lt, iI_le, iI_eq, iI_n, iI_in, iI_div, iI_mod, iI_shm, iI_and1, iI_and7, iI_and63, iI_shr3, iI_shr6, rd_I, ob, Option.some.injEq, exists_eq_left', exists_eq_left, true_and, and_true, fqI, fqJ, eq_self, true_or, or_true, bP_0, bP_0i, npP, bP_1i, bP_b, not_true_eq_false, not_false_eq_true, false_implies, true_implies, implies_true, Classical.not_not, and_self, cP, cP', ite_n, ite_f]
    intro g1 e1
    obtain ⟨f1', r1⟩ := wI (i := s 4) (by omega) (by omega) (by omega) e1
    have H1 : LB g1 fr := LB.same f1'.1 f1'.2.2.1 f1'.2.2.2.1 f1'.aPe H
    have w1 : rd g1 (fr + 10) 0 = s 4 := by rw [f1'.row (by simp <;> omega)]; exact w0
    simp (disch := omega) only [fd0, fd1, fd2, fd3, fd4, fd5, fd6, fd7, fd8, fd9, fd10, fd11, fd12, fd13, fd14, fd15, fd16, fd17, fd18, fd19, fd20, fd21, fd22, fd23, fd24, fd25, fd26, fd27, fd28, fd29, fd30, fd31, fd32, fd33, fd34, fd35, fd36, fd37, fd38, fd39, fd40, fd41, fd42, fd43, fd44, fd45, fd46, fd47, fd48, fd49, fd50, fd51, fd52, w1, LB.o10 H1, LB.q10_2 H1, LB.o12 H1, LB.l12 H1, -Int.reduceToNat, -Int32.reduceToNatClampNeg, il0, il1, il2, il3, il4, il5, il6, il7, il8, il9, il10, il11, il12, il13, il14, il15, il16, il17, il18, il19, il20, il21, il22, il23, il24, il25, il26, il27, il28, il29, il30, il31, il32, il35, il36, il38, il40, il42, il43, il44, il45, il46, il47, il48, il49, il50, il51, il52, il57, il59, il60, il63, il64, il75, il80, il95, il96, il97, il98, il99, il100, il120, il122, il123, il127, il128, il135, il167, il175, il225, il249, il250, il255, il256, il360, il370, il384, il600, il700, il740, il900, il940, il1024, il1600, il4800, il64000, il125000, il262143, il1000000000, iI_toInt, iI_add, iI_sub, iI_mul, iI_neg, iI_lt, iI_le, iI_eq, iI_n, iI_in, iI_div, iI_mod, iI_shm, iI_and1, iI_and7, iI_and63, iI_shr3, iI_shr6, rd_I, ob, Option.some.injEq, exists_eq_left', exists_eq_left, true_and, and_true, fqI, fqJ, eq_self, true_or, or_true, bP_0, bP_0i, npP, bP_1i, bP_b, not_true_eq_false, not_false_eq_true, false_implies, true_implies, implies_true, Classical.not_not, and_self]
    intro g2 e2'
    obtain ⟨f2, r2⟩ := wI (i := s 4) (by omega) (by omega) (by omega) e2'
    have H2 : LB g2 fr := LB.same f2.1 f2.2.2.1 f2.2.2.2.1 f2.aPe H1
    have w2 : rd g2 (fr + 10) 0 = s 4 := by rw [f2.row (by simp <;> omega)]; exact w1
    simp (disch := omega) only [fd0, fd1, fd2, fd3, fd4, fd5, fd6, fd7, fd8, fd9, fd10, fd11, fd12, fd13, fd14, fd15, fd16, fd17, fd18, fd19, fd20, fd21, fd22, fd23, fd24, fd25, fd26, fd27, fd28, fd29, fd30, fd31, fd32, fd33, fd34, fd35, fd36, fd37, fd38, fd39, fd40, fd41, fd42, fd43, fd44, fd45, fd46, fd47, fd48, fd49, fd50, fd51, fd52, w2, LB.o10 H2, LB.q10_3 H2, LB.o13 H2, LB.l13 H2, -Int.reduceToNat, -Int32.reduceToNatClampNeg, il0, il1, il2, il3, il4, il5, il6, il7, il8, il9, il10, il11, il12, il13, il14, il15, il16, il17, il18, il19, il20, il21, il22, il23, il24, il25, il26, il27, il28, il29, il30, il31, il32, il35, il36, il38, il40, il42, il43, il44, il45, il46, il47, il48, il49, il50, il51, il52, il57, il59, il60, il63, il64, il75, il80, il95, il96, il97, il98, il99, il100, il120, il122, il123, il127, il128, il135, il167, il175, il225, il249, il250, il255, il256, il360, il370, il384, il600, il700, il740, il900, il940, il1024, il1600, il4800, il64000, il125000, il262143, il1000000000, iI_toInt, iI_add, iI_sub, iI_mul, iI_neg, iI_lt, iI_le, iI_eq, iI_n, iI_in, iI_div, iI_mod, iI_shm, iI_and1, iI_and7, iI_and63, iI_shr3, iI_shr6, rd_I, ob, Option.some.injEq, exists_eq_left', exists_eq_left, true_and, and_true, fqI, fqJ, eq_self, true_or, or_true, bP_0, bP_0i, npP, bP_1i, bP_b, not_true_eq_false, not_false_eq_true, false_implies, true_implies, implies_true, Classical.not_not, and_self]
    intro g3 e3
    obtain ⟨f3, r3⟩ := wI (i := s 4) (by omega) (by omega) (by omega) e3
    have H3 : LB g3 fr := LB.same f3.1 f3.2.2.1 f3.2.2.2.1 f3.aPe H2
    have w3 : rd g3 (fr + 10) 0 = s 4 := by rw [f3.row (by simp <;> omega)]; exact w2
    simp (disch := omega) only [fd0, fd1, fd2, fd3, fd4, fd5, fd6, fd7, fd8, fd9, fd10, fd11, fd12, fd13, fd14, fd15, fd16, fd17, fd18, fd19, fd20, fd21, fd22, fd23, fd24, fd25, fd26, fd27, fd28, fd29, fd30, fd31, fd32, fd33, fd34, fd35, fd36, fd37, fd38, fd39, fd40, fd41, fd42, fd43, fd44, fd45, fd46, fd47, fd48, fd49, fd50, fd51, fd52, w3, LB.o10 H3, LB.q10_4 H3, LB.o14 H3, LB.l14 H3, -Int.reduceToNat, -Int32.reduceToNatClampNeg, il0, il1, il2, il3, il4, il5, il6, il7, il8, il9, il10, il11, il12, il13, il14, il15, il16, il17, il18, il19, il20, il21, il22, il23, il24, il25, il26, il27, il28, il29, il30, il31, il32, il35, il36, il38, il40, il42, il43, il44, il45, il46, il47, il48, il49, il50, il51, il52, il57, il59, il60, il63, il64, il75, il80, il95, il96, il97, il98, il99, il100, il120, il122, il123, il127, il128, il135, il167, il175, il225, il249, il250, il255, il256, il360, il370, il384, il600, il700, il740, il900, il940, il1024, il1600, il4800, il64000, il125000, il262143, il1000000000, iI_toInt, iI_add, iI_sub, iI_mul, iI_neg, iI_lt, iI_le, iI_eq, iI_n, iI_in, iI_div, iI_mod, iI_shm, iI_and1, iI_and7, iI_and63, iI_shr3, iI_shr6, rd_I, ob, Option.some.injEq, exists_eq_left', exists_eq_left, true_and, and_true, fqI, fqJ, eq_self, true_or, or_true, bP_0, bP_0i, npP, bP_1i, bP_b, not_true_eq_false, not_false_eq_true, false_implies, true_implies, implies_true, Classical.not_not, and_self]
    intro g4 e4
    obtain ⟨f4, r4⟩ := wI (i := s 4) (by omega) (by omega) (by omega) e4
    have H4 : LB g4 fr := LB.same f4.1 f4.2.2.1 f4.2.2.2.1 f4.aPe H3
    have w4 : rd g4 (fr + 10) 0 = s 4 := by rw [f4.row (by simp <;> omega)]; exact w3
    simp (disch := omega) only [fd0, fd1, fd2, fd3, fd4, fd5, fd6, fd7, fd8, fd9, fd10, fd11, fd12, fd13, fd14, fd15, fd16, fd17, fd18, fd19, fd20, fd21, fd22, fd23, fd24, fd25, fd26, fd27, fd28, fd29, fd30, fd31, fd32, fd33, fd34, fd35, fd36, fd37, fd38, fd39, fd40, fd41, fd42, fd43, fd44, fd45, fd46, fd47, fd48, fd49, fd50, fd51, fd52, w4, LB.o10 H4, -Int.reduceToNat, -Int32.reduceToNatClampNeg, il0, il1, il2, il3, il4, il5, il6, il7, il8, il9, il10, il11, il12, il13, il14, il15, il16, il17, il18, il19, il20, il21, il22, il23, il24, il25, il26, il27, il28, il29, il30, il31, il32, il35, il36, il38, il40, il42, il43, il44, il45, il46, il47, il48, il49, il50, il51, il52, il57, il59, il60, il63, il64, il75, il80, il95, il96, il97, il98, il99, il100, il120, il122, il123, il127, il128, il135, il167, il175, il225, il249, il250, il255, il256, il360, il370, il384, il600, il700, il740, il900, il940, il1024, il1600, il4800, il64000, il125000, il262143, il1000000000, iI_toInt, iI_add, iI_sub, iI_mul, iI_neg, iI_lt, iI_le, iI_eq, iI_n, iI_in, iI_div, iI_mod, iI_shm, iI_and1, iI_and7, iI_and63, iI_shr3, iI_shr6, rd_I, ob, Option.some.injEq, exists_eq_left', exists_eq_left, true_and, and_true, fqI, fqJ, eq_self, true_or, or_true, bP_0, bP_0i, npP, bP_1i, bP_b, not_true_eq_false, not_false_eq_true, false_implies, true_implies, implies_true, Classical.not_not, and_self]
    intro g5 e5
    obtain ⟨f5, r5⟩ := wI (i := 0) (by omega) (by omega) (by omega) e5
    have R5 := ((((Rg.bI (fr := fr) (j := fr + 11) (by omega) hfr f1').bI (fr := fr) (j := fr + 12) (by omega) hfr f2).bI (fr := fr) (j := fr + 13) (by omega) hfr f3).bI (fr := fr) (j := fr + 14) (by omega) hfr f4).bI (fr := fr) (j := fr + 10) (by omega) hfr f5
    have FF : Fr (2 :: blk fr) (blk fr) [] h g5 := t.b2.trans ((f1'.bI (by omega)).trans ((f2.bI (by omega)).trans ((f3.bI (by omega)).trans ((f4.bI (by omega)).trans (f5.bI (by omega))))))
    refine K g5 (CO.fin FF R5 fun _ => ?_)
    obtain ⟨_, L, M, st, ft, tt, fb⟩ := Cg
    have row : ∀ j, j ≤ 20 ∧ ¬ (10 ≤ j ∧ j ≤ 14) → rd g5 (fr + j) = rd g (fr + j) := fun j hj => by rw [f5.row (by simp <;> omega), f4.row (by simp <;> omega), f3.row (by simp <;> omega), f2.row (by simp <;> omega), f1'.row (by simp <;> omega)]
    have q11 : rd g5 (fr + 11) = updT (rd g (fr + 11)) (s 4) ra := by rw [f5.row (by simp <;> omega), f4.row (by simp <;> omega), f3.row (by simp <;> omega), f2.row (by simp <;> omega), r1]
    have q12 : rd g5 (fr + 12) = updT (rd g (fr + 12)) (s 4) rb := by rw [f5.row (by simp <;> omega), f4.row (by simp <;> omega), f3.row (by simp <;> omega), r2, f1'.row (by simp <;> omega)]
    have q13 : rd g5 (fr + 13) = updT (rd g (fr + 13)) (s 4) re := by rw [f5.row (by simp <;> omega), f4.row (by simp <;> omega), r3, f2.row (by simp <;> omega), f1'.row (by simp <;> omega)]
    have q14 : rd g5 (fr + 14) = updT (rd g (fr + 14)) (s 4) v := by rw [f5.row (by simp <;> omega), r4, f3.row (by simp <;> omega), f2.row (by simp <;> omega), f1'.row (by simp <;> omega)]
    have E0 : ∀ j, (j : Int) = j → rd g5 fr j = rd g fr j := fun j _ => by rw [show fr = fr + 0 from rfl, row 0 (by omega)]
    have E16 : ∀ j, (j : Int) = j → rd g5 (fr + 16) j = rd g (fr + 16) j := fun j _ => by rw [row 16 (by omega)]
    have jow : ∀ j, j ≤ 20 → aJ g5 (fr + j) = aJ g (fr + j) := fun j _ => by rw [f5.2.2.2.2.2.1 _ (by simp), f4.2.2.2.2.2.1 _ (by simp), f3.2.2.2.2.2.1 _ (by simp), f2.2.2.2.2.2.1 _ (by simp), f1'.2.2.2.2.2.1 _ (by simp)]
    have jow0 : ∀ j : Nat, j ≤ 20 → aJ g5 fr j = aJ g fr j := fun j _ => by rw [show fr = fr + 0 from rfl, jow 0 (by omega)]
    have es : ∀ i, (i ≠ 4 ∧ (i < 135 + 4 * s 4 ∨ 135 + 4 * s 4 + 3 < i)) → ropU s ra rb re v i = s i := fun i hi => by unfold ropU; rw [updT_n (by omega), updT_n (by omega), updT_n (by omega), updT_n (by omega), updT_n (by omega)]
    have s4 : ropU s ra rb re v 4 = s 4 + 1 := by unfold ropU; rw [updT_s]
    have sA : ropU s ra rb re v (135 + 4 * s 4) = ra := by unfold ropU; rw [updT_n (by omega), updT_n (by omega), updT_n (by omega), updT_n (by omega), updT_s]
    have sB : ropU s ra rb re v (135 + 4 * s 4 + 1) = rb := by unfold ropU; rw [updT_n (by omega), updT_n (by omega), updT_n (by omega), updT_s]
    have sC : ropU s ra rb re v (135 + 4 * s 4 + 2) = re := by unfold ropU; rw [updT_n (by omega), updT_n (by omega), updT_s]
    have sD : ropU s ra rb re v (135 + 4 * s 4 + 3) = v := by unfold ropU; rw [updT_n (by omega), updT_s]
    exact ⟨LB.same f5.1 f5.2.2.1 f5.2.2.2.1 f5.aPe H4, ⟨(by rw [E0 0 (by omega), es 0 (by omega)]; exact L.c0), (by rw [E0 1 (by omega), es 1 (by omega)]; exact L.c1), (by rw [E0 5 (by omega), es 2 (by omega)]; exact L.c5), (by rw [E0 11 (by omega), es 3 (by omega)]; exact L.c11), (by rw [r5, updT_s, s4]), (by rw [E16 0 (by omega), es 5 (by omega)]; exact L.w0), (fun x y x0 x1 y0 y1 => by rw [es 0 (by omega)] at x1; rw [es 1 (by omega)] at y1; rw [row 1 (by omega), es _ (by omega)]; exact L.gr x y x0 x1 y0 y1), (fun g x y g0 g1 x0 x1 y0 y1 => by rw [es 0 (by omega), es 1 (by omega), es (11 + 8 * y + x) (by omega), jow 2 (by omega)]; exact L.up g x y g0 g1 x0 x1 y0 y1), (fun i i0 i1 => by rw [row 3 (by omega), es _ (by omega)]; exact L.td i i0 i1), (fun r r0 r1 => by rw [es 2 (by omega)] at r1; rw [row 5 (by omega), es _ (by omega)]; exact L.wi r r0 r1), (fun r r0 r1 => by rw [es 2 (by omega)] at r1; rw [row 6 (by omega), es _ (by omega)]; exact L.hi r r0 r1), (fun r r0 r1 => by rw [es 2 (by omega)] at r1; rw [row 7 (by omega), es _ (by omega)]; exact L.dr r r0 r1), (fun r r0 r1 => by rw [es 3 (by omega)] at r1; rw [row 9 (by omega), es _ (by omega), es _ (by omega)]; exact L.po r r0 r1), (fun k k0 k1 => by rw [s4] at k1; rw [q11]; by_cases ck : k = s 4; { rw [ck, updT_s, sA] }; { rw [updT_n ck, es _ (by omega)]; exact L.ro k k0 (by omega) }), (fun k k0 k1 => by rw [s4] at k1; rw [q12]; by_cases ck : k = s 4; { rw [ck, updT_s, sB] }; { rw [updT_n ck, es _ (by omega)]; exact L.rp k k0 (by omega) }), (fun k k0 k1 => by rw [s4] at k1; rw [q13]; by_cases ck : k = s 4; { rw [ck, updT_s, sC] }; { rw [updT_n ck, es _ (by omega)]; exact L.rq k k0 (by omega) }), (fun k k0 k1 => by rw [s4] at k1; rw [q14]; by_cases ck : k = s 4; { rw [ck, updT_s, sD] }; { rw [updT_n ck, es _ (by omega)]; exact L.rh k k0 (by omega) }), (fun r r0 r1 => by rw [row 15 (by omega), es _ (by omega)]; exact L.mo r r0 r1), (fun r r0 r1 => by rw [es 5 (by omega)] at r1; rw [row 17 (by omega), es _ (by omega)]; exact L.wk r r0 r1), (fun r r0 r1 => by rw [es 5 (by omega)] at r1; rw [row 18 (by omega), es _ (by omega)]; exact L.wh r r0 r1), (fun r r0 r1 => by rw [es 5 (by omega)] at r1; rw [row 19 (by omega), es (175 + 5 * r) (by omega), es (175 + 5 * r + 3) (by omega), es (175 + 5 * r + 2) (by omega)]; exact L.wt r r0 r1), (fun r r0 r1 => by rw [es 5 (by omega)] at r1; rw [row 20 (by omega), es _ (by omega)]; exact L.ww r r0 r1), (fun x y x0 x1 y0 y1 => by rw [es 6 (by omega), es 7 (by omega), es 8 (by omega), es 9 (by omega), ← L.sq x y x0 x1 y0 y1, jow0 13 (by omega)])⟩, fun r r0 r1 => by rw [es 2 (by omega)] at r1; rw [row 4 (by omega)]; exact M r r0 r1, fun r r0 r1 => by rw [es 2 (by omega)] at r1; rw [row 8 (by omega), es _ (by omega), es _ (by omega)]; exact st r r0 r1, by rw [f5.aPe, f4.aPe, f3.aPe, f2.aPe, f1'.aPe]; exact p12, by rw [f5.row (by simp <;> omega), f4.row (by simp <;> omega), f3.row (by simp <;> omega), f2.row (by simp <;> omega), f1'.row (by simp <;> omega)]; exact tt, fb⟩
  · simp (disch := omega) only [O, fd0, fd1, fd2, fd3, fd4, fd5, fd6, fd7, fd8, fd9, fd10, fd11, fd12, fd13, fd14, fd15, fd16, fd17, fd18, fd19, fd20, fd21, fd22, fd23, fd24, fd25, fd26, fd27, fd28, fd29, fd30, fd31, fd32, fd33, fd34, fd35, fd36, fd37, fd38, fd39, fd40, fd41, fd42, fd43, fd44, fd45, fd46, fd47, fd48, fd49, fd50, fd51, fd52, sf, -Int.reduceToNat, -Int32.reduceToNatClampNeg, il0, il1, il2, il3, il4, il5, il6, il7, il8, il9, il10, il11, il12, il13, il14, il15, il16, il17, il18, il19, il20, il21, il22, il23, il24, il25, il26, il27, il28, il29, il30, il31, il32, il35, il36, il38, il40, il42, il43, il44, il45, il46, il47, il48, il49, il50, il51, il52, il57, il59, il60, il63, il64, il75, il80, il95, il96, il97, il98, il99, il100, il120, il122, il123, il127, il128, il135, il167, il175, il225, il249, il250, il255, il256, il360, il370, il384, il600, il700, il740, il900, il940, il1024, il1600, il4800, il64000, il125000, il262143, il1000000000, iI_toInt, iI_add, iI_sub, iI_mul, iI_neg, iI_lt, iI_le, iI_eq, iI_n, iI_in, iI_div, iI_mod, iI_shm, iI_and1, iI_and7, iI_and63, iI_shr3, iI_shr6, rd_I, ob, Option.some.injEq, exists_eq_left', exists_eq_left, true_and, and_true, fqI, fqJ, eq_self, true_or, or_true, bP_0, bP_0i, npP, bP_1i, bP_b, not_true_eq_false, not_false_eq_true, false_implies, true_implies, implies_true, Classical.not_not, and_self, cP, cP', ite_n, ite_f]
    exact K g (CO.fin t.b2 Rg fun z => absurd z cf)
theorem gap_bd (B : BA s td) (h1 : 0 ≤ ra) (h2 : ra < s 2) (h3 : 0 ≤ rb) (h4 : rb < s 2) : 0 ≤ gapT (tS s) (zC s) ra rb ∧ gapT (tS s) (zC s) ra rb ≤ 8 := by
  obtain ⟨bb0, bb1, bb2, bb3, bb4, bb5⟩ := B.bds
  obtain ⟨a1, a2, a3⟩ := B.vt ra h1 h2
  obtain ⟨b1, b2, b3⟩ := B.vt rb h3 h4
  have ea := wsp_enc (EZ.c s) h1 (by omega) a1
  have eb := wsp_enc (EZ.c s) h3 (by omega) b1
  have za := wsp_bd (enc (tS s) ra) B.gs.2.1 h1 h2
  have zb' := wsp_bd (enc (tS s) rb) B.gs.2.1 h3 h4
  rw [ea.1, ea.2] at za
  rw [eb.1, eb.2] at zb'
  unfold insT at a2 b2
  unfold gapT btw
  (repeat' split) <;> omega
theorem c_rope65 (R : RD T n m h 2 2 3 f fa p a) (C : CL h fr s N td) (B : BA s td) (h4 : f = 0 → s 4 < 8 ∧ ra < s 2 ∧ rb < s 2) (ba : 0 ≤ ra ∧ ra < 8) (bb : 0 ≤ rb ∧ rb < 8) (K : ∀ h', CO T n m fr h h' (iteP (f = 0) (nuS T n m (gapT (tS s) (zC s) ra rb) 9 p fun re q3 => nuS T n m 1 99 q3 fun ho q4 => okR (ropU s ra rb re ho) N td q4) (bdR f fa)) → postV h') : wb_X2_readRope_65 h 2 (iI ra) (iI rb) postV := by
  unfold wb_X2_readRope_65
  refine ⟨R.o, ?_⟩
  rw [show (0 : Int32) = iI 0 from rfl, show (9 : Int32) = iI 9 from rfl]
  refine c_readNumber R (by omega) (by omega) fun g f1 fa1 p1 a1 re t Rg NR => ?_
  have O := Rg.o
  have Cg := C.tf t
  have vr := NR.rng
  have H := Cg.H
  have p12 := Cg.ft
  obtain ⟨bb0, bb1, bb2, bb3, bb4, bb5⟩ := B.bds
  simp (disch := omega) only [O, fd0, fd1, fd2, fd3, fd4, fd5, fd6, fd7, fd8, fd9, fd10, fd11, fd12, fd13, fd14, fd15, fd16, fd17, fd18, fd19, fd20, fd21, fd22, fd23, fd24, fd25, fd26, fd27, fd28, fd29, fd30, fd31, fd32, fd33, fd34, fd35, fd36, fd37, fd38, fd39, fd40, fd41, fd42, fd43, fd44, fd45, fd46, fd47, fd48, fd49, fd50, fd51, fd52, p12, LB.o0 H, LB.p10 H, LB.o8 H, LB.l8 H, -Int.reduceToNat, -Int32.reduceToNatClampNeg, il0, il1, il2, il3, il4, il5, il6, il7, il8, il9, il10, il11, il12, il13, il14, il15, il16, il17, il18, il19, il20, il21, il22, il23, il24, il25, il26, il27, il28, il29, il30, il31, il32, il35, il36, il38, il40, il42, il43, il44, il45, il46, il47, il48, il49, il50, il51, il52, il57, il59, il60, il63, il64, il75, il80, il95, il96, il97, il98, il99, il100, il120, il122, il123, il127, il128, il135, il167, il175, il225, il249, il250, il255, il256, il360, il370, il384, il600, il700, il740, il900, il940, il1024, il1600, il4800, il64000, il125000, il262143, il1000000000, iI_toInt, iI_add, iI_sub, iI_mul, iI_neg, iI_lt, iI_le, iI_eq, iI_n, iI_in, iI_div, iI_mod, iI_shm, iI_and1, iI_and7, iI_and63, iI_shr3, iI_shr6, rd_I, ob, Option.some.injEq, exists_eq_left', exists_eq_left, true_and, and_true, fqI, fqJ, eq_self, true_or, or_true, bP_0, bP_0i, npP, bP_1i, bP_b, not_true_eq_false, not_false_eq_true, false_implies, true_implies, implies_true, Classical.not_not, and_self]
  by_cases cf : f1 = 0
  · have nok := NR.ok cf
    obtain ⟨h4', ra2, rb2⟩ := h4 nok.1
    have va := B.vt ra ba.1 ra2
    have vb := B.vt rb bb.1 rb2
    have ea := enc_nums va.1
    have eb := enc_nums vb.1
    have za := Z1.of (EZ.c s) B.gs.2.1 ba.1 ra2 bb2.2
    have zb' := Z1.of (EZ.c s) B.gs.2.1 bb.1 rb2 bb2.2
    have en : ∀ r, 0 ≤ r → r < s 2 → rd g (fr + 8) r = enc (tS s) r := fun r r0 r1 => by
      rw [Cg.st r r0 r1]
      unfold enc
      rw [tS_i (by omega) (by omega), tS_i (by omega) (by omega), tS_i (by omega) (by omega), show 225 + (3 * r + 1) = 225 + 3 * r + 1 by omega, show 225 + (3 * r + 2) = 225 + 3 * r + 2 by omega, B.t0 r r0 r1]
      omega
    have sa := en ra ba.1 ra2
    have sb := en rb bb.1 rb2
    have gb := gap_bd B ba.1 ra2 bb.1 rb2
    rw [sa, sb, c_between H Cg.L B.gs.2.1 bb2.2 ba.1 ra2 ea.1.1 ea.1.2 bb.1 rb2 eb.1.1 eb.1.2, gsp_enc (EZ.c s) ba.1 (by omega) bb.1 (by omega) va.1 vb.1 za zb']
    simp (disch := omega) only [O, -Int.reduceToNat, -Int32.reduceToNatClampNeg, il0, il1, il2, il3, il4, il5, il6, il7, il8, il9, il10, il11, il12, il13, il14, il15, il16, il17, il18, il19, il20, il21, il22, il23, il24, il25, il26, il27, il28, il29, il30, il31, il32, il35, il36, il38, il40, il42, il43, il44, il45, il46, il47, il48, il49, il50, il51, il52, il57, il59, il60, il63, il64, il75, il80, il95, il96, il97, il98, il99, il100, il120, il122, il123, il127, il128, il135, il167, il175, il225, il249, il250, il255, il256, il360, il370, il384, il600, il700, il740, il900, il940, il1024, il1600, il4800, il64000, il125000, il262143, il1000000000, iI_toInt, iI_add, iI_sub, iI_mul, iI_neg, iI_lt, iI_le, iI_eq, iI_n, iI_in, iI_div, iI_mod, iI_shm, iI_and1, iI_and7, iI_and63, iI_shr3, iI_shr6, rd_I, ob, Option.some.injEq, exists_eq_left', exists_eq_left, true_and, and_true, fqI, fqJ, eq_self, true_or, or_true, bP_0, bP_0i, npP, bP_1i, bP_b, not_true_eq_false, not_false_eq_true, false_implies, true_implies, implies_true, Classical.not_not, and_self, cP, cP', ite_n]
    by_cases cg : gapT (tS s) (zC s) ra rb ≤ re
    · rw [ite_t cg]
      refine c_rope109 Rg Cg B (fun _ => h4') ba bb (by omega) fun h' co => K h' (CO.from t.b2 ?_)
      have e : NuR T n m f fa p (gapT (tS s) (zC s) ra rb) 9 f1 fa1 p1 a1 re := by
        rcases NR with u | u | u | ⟨u1, u2, u3, u4, u5, u6, u7, u8, u9⟩
        · omega
        · omega
        · omega
        · exact Or.inr (Or.inr (Or.inr ⟨u1, u2, by omega, u4, u5, u6, u7, u8, u9⟩))
      rw [e.st]
      exact co
    · rw [ite_f cg]
      refine c_fail Rg (by omega) fun g2 f2 fa2 t2 R2 FR => c_rope109 R2 (Cg.tf t2) B (fun _ => h4') ba bb (by omega) fun h' co => K h' (CO.from (t.b2.trans t2.b2) ?_)
      have e : NuR T n m f fa p (gapT (tS s) (zC s) ra rb) 9 f2 fa2 p1 a1 (gapT (tS s) (zC s) ra rb) := by
        rcases NR with u | u | u | ⟨u1, u2, u3, u4, u5, u6, u7, u8, u9⟩
        · omega
        · omega
        · omega
        · rcases FR with w | ⟨w1, w2, w3⟩
          · omega
          · exact Or.inr (Or.inr (Or.inl ⟨u1, u2, by omega, w2, by omega, rfl⟩))
      rw [e.st, ite_f (show ¬ f2 = 0 by rcases FR with w | w <;> omega)]
      rw [ite_f (show ¬ f2 = 0 by rcases FR with w | w <;> omega)] at co
      exact co
  · refine c_betweenT H ba.1 ba.2 bb.1 bb.2 fun w => ?_
    have ee : iteP (f = 0) (nuS T n m (gapT (tS s) (zC s) ra rb) 9 p fun re q3 => nuS T n m 1 99 q3 fun ho q4 => okR (ropU s ra rb re ho) N td q4) (bdR f fa) = bdR f1 fa1 := by
      by_cases z : f = 0
      · have gb := gap_bd B ba.1 (h4 z).2.1 bb.1 (h4 z).2.2
        have e : ∃ v', NuR T n m f fa p (gapT (tS s) (zC s) ra rb) 9 f1 fa1 p1 a1 v' := by
          rcases NR with ⟨u1, u2, u3, u4⟩ | ⟨u1, u2, u3, u4, u5⟩ | ⟨u1, u2, u3, u4, u5, u6⟩ | u
          · omega
          · exact ⟨_, Or.inr (Or.inl ⟨u1, u2, u3, u4, rfl⟩)⟩
          · exact ⟨_, Or.inr (Or.inr (Or.inl ⟨u1, u2, by omega, u4, u5, rfl⟩))⟩
          · omega
        obtain ⟨v', e⟩ := e
        rw [e.st, ite_f cf]
      · rw [ite_f z]
        rcases NR with u | u | u | u
        · rw [u.2.1, u.2.2.1]
        · omega
        · omega
        · omega
    rw [ee] at K
    have k1 : wb_X2_readRope_109 g 2 (iI ra) (iI rb) (iI re) postV := c_rope109 Rg Cg B (fun z => absurd z cf) ba bb (by omega) fun h' co => K h' (CO.from t.b2 (by rw [ite_f cf] at co; exact co))
    exact ⟨fun _ => k1, fun _ => ⟨O, c_failF Rg cf k1⟩⟩
theorem c_rope60 (R : RD T n m h 2 2 3 f fa p a) (C : CL h fr s N td) (B : BA s td) (ba : 0 ≤ ra ∧ ra < 8) (bb : 0 ≤ rb ∧ rb < 8) (K : ∀ h' f' fa', FaR f fa a 3 f' fa' → CO T n m fr h h' (bdR f' fa') → postV h') : wb_X2_readRope_60 h 2 (iI ra) (iI rb) postV := by
  unfold wb_X2_readRope_60
  rw [show (3 : Int32) = iI 3 from rfl]
  refine ⟨R.o, c_fail R (by omega) fun g f1 fa1 t Rg FR => ?_⟩
  have nz : f1 ≠ 0 := by rcases FR with w | w <;> omega
  refine c_rope65 Rg (C.tf t) B (fun z => absurd z nz) ba bb fun h' co => K h' f1 fa1 FR (CO.from t.b2 ?_)
  rw [ite_f nz] at co
  exact co
theorem c_rope20 (R : RD T n m h 2 2 3 f fa p a) (C : CL h fr s N td) (B : BA s td) (h4 : f = 0 → s 4 < 8) (K : ∀ h', CO T n m fr h h' (iteP (f = 0) (raS T n m N (s 2) p fun ra q1 => raS T n m N (s 2) q1 fun rb q2 => iteP (ra = rb ∨ ropd s ra rb) (bdR 3 (tkA T n m q1)) (nuS T n m (gapT (tS s) (zC s) ra rb) 9 q2 fun re q3 => nuS T n m 1 99 q3 fun ho q4 => okR (ropU s ra rb re ho) N td q4)) (bdR f fa)) → postV h') : wb_X2_readRope_20 h 2 postV := by
  have hfr := C.f5
  obtain ⟨bb0, bb1, bb2, bb3, bb4, bb5⟩ := B.bds
  unfold wb_X2_readRope_20
  refine ⟨R.o, fr, C.ft, R.o, c_readRaft R C.H C.L.c5 bb2 C.M (by omega) fun g2 f2 fa2 p2 a2 ra t2 R2 RR => ?_⟩
  rw [RR.st] at K
  have C2 := C.tf t2
  refine ⟨R2.o, fr, C2.ft, R2.o, c_readRaft R2 C2.H C2.L.c5 bb2 C2.M (by omega) fun g3 f3 fa3 p3 a3 rb t3 R3 RR2 => ?_⟩
  rw [RR2.st] at K
  have C3 := C2.tf t3
  have ra' := RR.rng bb2.1
  have rb' := RR2.rng bb2.1
  have T3 : Fr (2 :: blk fr) (blk fr) [] h g3 := t2.b2.trans t3.b2
  have ba : 0 ≤ ra ∧ ra < 8 := by omega
  have bb : 0 ≤ rb ∧ rb < 8 := by omega
  have k60 : (ra = rb ∨ ropd s ra rb) → wb_X2_readRope_60 g3 2 (iI ra) (iI rb) postV := fun z => c_rope60 R3 C3 B ba bb fun h' f' fa' FR co => K h' (CO.from T3 (by
    rw [it_a fun u => show iteP (ra = rb ∨ ropd s ra rb) (bdR 3 (tkA T n m p2)) _ = iteP (ra = rb ∨ ropd s ra rb) (bdR 3 a3) (bdR 0 0) by rw [ite_t z, ite_t z, (RR2.ok u bb2.1).2.2.2.1], FR.st (Y := bdR 0 0) (by omega) z, ite_f (by rcases FR with w | w <;> omega)]
    exact co))
  have k65 : ¬ (ra = rb ∨ ropd s ra rb) → wb_X2_readRope_65 g3 2 (iI ra) (iI rb) postV := fun z => c_rope65 R3 C3 B (fun u => ⟨h4 (RR.ok (RR2.ok u bb2.1).1 bb2.1).1, (RR.ok (RR2.ok u bb2.1).1 bb2.1).2.2.2.2.2, (RR2.ok u bb2.1).2.2.2.2.2⟩) ba bb fun h' co => K h' (CO.from T3 (by
    rw [it_a fun _ => ite_f z]
    exact co))
  have H3 := C3.H
  have O3 := R3.o
  have rok : ROk s := B.gs.1.2.2.2.2.2.2.2.1
  have sbd : SBd s := B.gs.1.1
  have rqb : ∀ k, 0 ≤ k → k < s 4 → (0 ≤ s (135 + 4 * k) ∧ s (135 + 4 * k) < 8) ∧ (0 ≤ s (135 + 4 * k + 1) ∧ s (135 + 4 * k + 1) < 8) ∧ 0 ≤ s (135 + 4 * k + 2) ∧ s (135 + 4 * k + 2) < 99 := fun k k0 k1 => by
    have u := rok k k0 k1
    have v := sbd (135 + 4 * k + 2) (by omega) (by omega)
    have w := B.rq k k0 k1
    omega
  refine ⟨fun z => ?_, fun z => ⟨O3, fr, C3.ft, H3.o0, fr + 10, H3.p14, H3.o10, ?_⟩⟩
  · rw [iI_eq (by omega) (by omega) (by omega) (by omega)] at z
    exact k60 (Or.inl z)
  · rw [iI_eq (by omega) (by omega) (by omega) (by omega)] at z
    refine c_reachOf H3 C3.L bb4 rqb ba.1 ba.2 bb.1 bb.2 (fun u => ?_) (fun u v v0 v1 => ?_)
    · exact ⟨fun _ => k65 fun w => w.elim z u, fun w => absurd rfl w⟩
    · exact ⟨fun w => by rw [show (99 : Int32) = iI 99 from rfl, iI_eq (by omega) (by omega) (by omega) (by omega)] at w; omega, fun _ => k60 (Or.inr u)⟩
theorem c_rope (R : RD T n m h 2 2 3 0 fa p a) (C : CL h fr s N td) (B : BA s td) (K : ∀ h', CO T n m fr h h' (sRope T n m s N td a p) → postV h') : wp_X2_readRope h 2 postV := by
  unfold sRope at K
  have O := R.o
  have H := C.H
  have p12 := C.ft
  have q0 := C.L.q0
  obtain ⟨bb0, bb1, bb2, bb3, bb4, bb5⟩ := B.bds
  unfold wp_X2_readRope
  simp (disch := omega) only [O, fd0, fd1, fd2, fd3, fd4, fd5, fd6, fd7, fd8, fd9, fd10, fd11, fd12, fd13, fd14, fd15, fd16, fd17, fd18, fd19, fd20, fd21, fd22, fd23, fd24, fd25, fd26, fd27, fd28, fd29, fd30, fd31, fd32, fd33, fd34, fd35, fd36, fd37, fd38, fd39, fd40, fd41, fd42, fd43, fd44, fd45, fd46, fd47, fd48, fd49, fd50, fd51, fd52, p12, LB.o0 H, LB.p14 H, LB.o10 H, q0, -Int.reduceToNat, -Int32.reduceToNatClampNeg, il0, il1, il2, il3, il4, il5, il6, il7, il8, il9, il10, il11, il12, il13, il14, il15, il16, il17, il18, il19, il20, il21, il22, il23, il24, il25, il26, il27, il28, il29, il30, il31, il32, il35, il36, il38, il40, il42, il43, il44, il45, il46, il47, il48, il49, il50, il51, il52, il57, il59, il60, il63, il64, il75, il80, il95, il96, il97, il98, il99, il100, il120, il122, il123, il127, il128, il135, il167, il175, il225, il249, il250, il255, il256, il360, il370, il384, il600, il700, il740, il900, il940, il1024, il1600, il4800, il64000, il125000, il262143, il1000000000, iI_toInt, iI_add, iI_sub, iI_mul, iI_neg, iI_lt, iI_le, iI_eq, iI_n, iI_in, iI_div, iI_mod, iI_shm, iI_and1, iI_and7, iI_and63, iI_shr3, iI_shr6, rd_I, ob, Option.some.injEq, exists_eq_left', exists_eq_left, true_and, and_true, fqI, fqJ, eq_self, true_or, or_true, bP_0, bP_0i, npP, bP_1i, bP_b, not_true_eq_false, not_false_eq_true, false_implies, true_implies, implies_true, Classical.not_not, and_self, cP, cP', ite_n]
  by_cases z : s 4 < 8
  · rw [ite_t z] at K
    rw [ite_t z]
    refine c_rope20 R C B (fun _ => z) fun h' co => K h' ?_
    rw [ite_t rfl] at co
    exact co
  · rw [ite_f z] at K
    rw [ite_f z]
    refine c_fail0 R (by omega) fun g t Rg => c_rope20 Rg (C.tf t) B (fun u => by omega) fun h' co => K h' (CO.from t.b2 ?_)
    rw [ite_f (by omega)] at co
    exact co
end ROP
