/-! LINES of the class: moor, wants -/
section MOR
variable {h h1 h2 h' h0 : AH} {fr tx ci tb : Nat} {postV : AH → Prop} {post : AH → Int32 → Prop} {a b c d r x y n m p f fa q e k i lo hi v w td : Int} {T s : Int → Int} {l : List Int} {N : Int → List Int}
theorem c_moor29 {r : Int} (R : RD T n m h 2 2 3 f fa p a) (C : CL h fr s N td) (B : BA s td) (h0' : 0 ≤ r ∧ r < 8) (K : ∀ h', CO T n m fr h h' (iteP (f = 0) (nuS T n m 1 99 p fun v q2 => okR (updT s (167 + r) v) N td q2) (bdR f fa)) → postV h') : wb_X2_readMoor_29 h 2 (iI r) postV := by
  unfold wb_X2_readMoor_29
  refine ⟨R.o, ?_⟩
  rw [show (1 : Int32) = iI 1 from rfl, show (99 : Int32) = iI 99 from rfl]
  refine c_readNumber R (by omega) (by omega) fun g f1 fa1 p1 a1 v t Rg NR => ?_
  rw [NR.st] at K
  have Og := Rg.o
  have b := rd_bd g 2 10
  have sf := Rg.sf
  have Cg := C.tf t
  have vr := NR.rng
  by_cases cf : f1 = 0
  · have H1 := Cg.H
    have p12 := Cg.ft
    simp (disch := omega) only [Og, fd0, fd1, fd2, fd3, fd4, fd5, fd6, fd7, fd8, fd9, fd10, fd11, fd12, fd13, fd14, fd15, fd16, fd17, fd18, fd19, fd20, fd21, fd22, fd23, fd24, fd25, fd26, fd27, fd28, fd29, fd30, fd31, fd32, fd33, fd34, fd35, fd36, fd37, fd38, fd39, fd40, fd41, fd42, fd43, fd44, fd45, fd46, fd47, fd48, fd49, fd50, fd51, fd52, sf, cf, p12, LB.o0 H1, LB.p14 H1, LB.o10 H1, LB.q10_5 H1, LB.o15 H1, LB.l15 H1, -Int.reduceToNat, -Int32.reduceToNatClampNeg, il0, il1, il2, il3, il4, il5, il6, il7, il8, il9, il10, il11, il12, il13, il14, il15, il16, il17, il18, il19, il20, il21, il22, il23, il24, il25, il26, il27, il28, il29, il30, il31, il32, il35, il36, il38, il40, il42, il43, il44, il45, il46, il47, il48, il49, il50, il51, il52, il57, il59, il60, il63, il64, il75, il80, il95, il96, il97, il98, il99, il100, il120, il122, il123, il127, il128, il135, il167, il175, il225, il249, il250, il255, il256, il360, il370, il384, il600, il700, il740, il900, il940, il1024, il1600, il4800, il64000, il125000, il262143, il1000000000, iI_toInt, iI_add, iI_sub, iI_mul, iI_neg, iI_lt, iI_le, iI_eq, iI_n, iI_in, iI_div, iI_mod, iI_shm, iI_and1, iI_and7, iI_and63, iI_shr3, iI_shr6, rd_I, ob, Option.some.injEq, exists_eq_left', exists_eq_left, true_and, and_true, fqI, fqJ, eq_self, true_or, or_true, bP_0, bP_0i, npP, bP_1i, bP_b, not_true_eq_false, not_false_eq_true, false_implies, true_implies, implies_true, Classical.not_not, and_self, cP, cP', ite_n, ite_t]
    intro g2 e2
    obtain ⟨f2, r2⟩ := wI (i := r) (by omega) (by omega) (by omega) e2
    have hfr := Cg.f5
    have R2 := Rg.bI (fr := fr) (j := fr + 15) (by omega) hfr f2
    refine K g2 (CO.fin (t.b2.trans (f2.bI (by omega))) R2 fun _ => ?_)
    obtain ⟨H, L, M, st, ft, tt, fb⟩ := Cg
    have row : ∀ j, j ≤ 20 ∧ j ≠ 15 → rd g2 (fr + j) = rd g (fr + j) := fun j hj => by rw [f2.row (by simp <;> omega)]
    have E0 : ∀ j, (j : Int) = j → rd g2 fr j = rd g fr j := fun j _ => by rw [show fr = fr + 0 from rfl, row 0 (by omega)]
    have E10 : ∀ j, (j : Int) = j → rd g2 (fr + 10) j = rd g (fr + 10) j := fun j _ => by rw [row 10 (by omega)]
    have E16 : ∀ j, (j : Int) = j → rd g2 (fr + 16) j = rd g (fr + 16) j := fun j _ => by rw [row 16 (by omega)]
    have jow : ∀ j, j ≤ 20 → aJ g2 (fr + j) = aJ g (fr + j) := fun j _ => by rw [f2.2.2.2.2.2.1 _ (by simp)]
    have jow0 : ∀ j : Nat, j ≤ 20 → aJ g2 fr j = aJ g fr j := fun j _ => by rw [show fr = fr + 0 from rfl, jow 0 (by omega)]
    have es : ∀ i, i ≠ 167 + r → updT s (167 + r) v i = s i := fun i hi => updT_n hi
    obtain ⟨bb0, bb1, bb2, bb3, bb4, bb5⟩ := B.bds
    exact ⟨LB.same f2.1 f2.2.2.1 f2.2.2.2.1 f2.aPe H1, ⟨(by rw [E0 0 (by omega), es 0 (by omega)]; exact L.c0), (by rw [E0 1 (by omega), es 1 (by omega)]; exact L.c1), (by rw [E0 5 (by omega), es 2 (by omega)]; exact L.c5), (by rw [E0 11 (by omega), es 3 (by omega)]; exact L.c11), (by rw [E10 0 (by omega), es 4 (by omega)]; exact L.q0), (by rw [E16 0 (by omega), es 5 (by omega)]; exact L.w0), (fun x y x0 x1 y0 y1 => by rw [es 0 (by omega)] at x1; rw [es 1 (by omega)] at y1; rw [row 1 (by omega), es _ (by omega)]; exact L.gr x y x0 x1 y0 y1), (fun g x y g0 g1 x0 x1 y0 y1 => by rw [es 0 (by omega), es 1 (by omega), es (11 + 8 * y + x) (by omega), jow 2 (by omega)]; exact L.up g x y g0 g1 x0 x1 y0 y1), (fun i i0 i1 => by rw [row 3 (by omega), es _ (by omega)]; exact L.td i i0 i1), (fun r r0 r1 => by rw [es 2 (by omega)] at r1; rw [row 5 (by omega), es _ (by omega)]; exact L.wi r r0 r1), (fun r r0 r1 => by rw [es 2 (by omega)] at r1; rw [row 6 (by omega), es _ (by omega)]; exact L.hi r r0 r1), (fun r r0 r1 => by rw [es 2 (by omega)] at r1; rw [row 7 (by omega), es _ (by omega)]; exact L.dr r r0 r1), (fun r r0 r1 => by rw [es 3 (by omega)] at r1; rw [row 9 (by omega), es _ (by omega), es _ (by omega)]; exact L.po r r0 r1), (fun r r0 r1 => by rw [es 4 (by omega)] at r1; rw [row 11 (by omega), es _ (by omega)]; exact L.ro r r0 r1), (fun r r0 r1 => by rw [es 4 (by omega)] at r1; rw [row 12 (by omega), es _ (by omega)]; exact L.rp r r0 r1), (fun r r0 r1 => by rw [es 4 (by omega)] at r1; rw [row 13 (by omega), es _ (by omega)]; exact L.rq r r0 r1), (fun r r0 r1 => by rw [es 4 (by omega)] at r1; rw [row 14 (by omega), es _ (by omega)]; exact L.rh r r0 r1), (fun i i0 i1 => by rw [r2]; by_cases ci : i = r; { rw [ci, updT_s, updT_s] }; { rw [updT_n ci, updT_n (by omega)]; exact L.mo i i0 i1 }), (fun r r0 r1 => by rw [es 5 (by omega)] at r1; rw [row 17 (by omega), es _ (by omega)]; exact L.wk r r0 r1), (fun r r0 r1 => by rw [es 5 (by omega)] at r1; rw [row 18 (by omega), es _ (by omega)]; exact L.wh r r0 r1), (fun r r0 r1 => by rw [es 5 (by omega)] at r1; rw [row 19 (by omega), es (175 + 5 * r) (by omega), es (175 + 5 * r + 3) (by omega), es (175 + 5 * r + 2) (by omega)]; exact L.wt r r0 r1), (fun r r0 r1 => by rw [es 5 (by omega)] at r1; rw [row 20 (by omega), es _ (by omega)]; exact L.ww r r0 r1), (fun x y x0 x1 y0 y1 => by rw [es 6 (by omega), es 7 (by omega), es 8 (by omega), es 9 (by omega), ← L.sq x y x0 x1 y0 y1, jow0 13 (by omega)])⟩, fun r r0 r1 => by rw [es 2 (by omega)] at r1; rw [row 4 (by omega)]; exact M r r0 r1, fun r r0 r1 => by rw [es 2 (by omega)] at r1; rw [row 8 (by omega), es _ (by omega), es _ (by omega)]; exact st r r0 r1, by rw [f2.aPe]; exact p12, by rw [f2.row (by simp <;> omega)]; exact tt, fb⟩
  · simp (disch := omega) only [Og, fd0, fd1, fd2, fd3, fd4, fd5, fd6, fd7, fd8, fd9, fd10, fd11, fd12, fd13, fd14, fd15, fd16, fd17, fd18, fd19, fd20, fd21, fd22, fd23, fd24, fd25, fd26, fd27, fd28, fd29, fd30, fd31, fd32, fd33, fd34, fd35, fd36, fd37, fd38, fd39, fd40, fd41, fd42, fd43, fd44, fd45, fd46, fd47, fd48, fd49, fd50, fd51, fd52, sf, -Int.reduceToNat, -Int32.reduceToNatClampNeg, il0, il1, il2, il3, il4, il5, il6, il7, il8, il9, il10, il11, il12, il13, il14, il15, il16, il17, il18, il19, il20, il21, il22, il23, il24, il25, il26, il27, il28, il29, il30, il31, il32, il35, il36, il38, il40, il42, il43, il44, il45, il46, il47, il48, il49, il50, il51, il52, il57, il59, il60, il63, il64, il75, il80, il95, il96, il97, il98, il99, il100, il120, il122, il123, il127, il128, il135, il167, il175, il225, il249, il250, il255, il256, il360, il370, il384, il600, il700, il740, il900, il940, il1024, il1600, il4800, il64000, il125000, il262143, il1000000000, iI_toInt, iI_add, iI_sub, iI_mul, iI_neg, iI_lt, iI_le, iI_eq, iI_n, iI_in, iI_div, iI_mod, iI_shm, iI_and1, iI_and7, iI_and63, iI_shr3, iI_shr6, rd_I, ob, Option.some.injEq, exists_eq_left', exists_eq_left, true_and, and_true, fqI, fqJ, eq_self, true_or, or_true, bP_0, bP_0i, npP, bP_1i, bP_b, not_true_eq_false, not_false_eq_true, false_implies, true_implies, implies_true, Classical.not_not, and_self, cP, cP', ite_n, ite_f]
    exact K g (CO.fin t.b2 Rg fun z => absurd z cf)
theorem c_moor (R : RD T n m h 2 2 3 0 fa p a) (C : CL h fr s N td) (B : BA s td) (K : ∀ h', CO T n m fr h h' (sMoor T n m s N td p) → postV h') : wp_X2_readMoor h 2 postV := by
  rw [show sMoor T n m s N td p = iteP ((0 : Int) = 0) (sMoor T n m s N td p) (bdR 0 fa) by rw [ite_t rfl]] at K
  unfold wp_X2_readMoor sMoor at *
  have hfr := C.f5
  obtain ⟨bb0, bb1, bb2, bb3, bb4, bb5⟩ := B.bds
  refine ⟨R.o, fr, C.ft, R.o, c_readRaft R C.H C.L.c5 bb2 C.M (by omega) fun g f1 fa1 p1 a1 r t Rg RR => ?_⟩
  rw [RR.st] at K
  have Og := Rg.o
  have Cg := C.tf t
  have H1 := Cg.H
  have p12 := Cg.ft
  have rr := RR.rng bb2.1
  have rok := fun z => RR.ok z bb2.1
  have mo := Cg.L.mo r (by omega) (by omega)
  have mb := rd_bd g (fr + 15) r
  rw [mo] at mb
  simp (disch := omega) only [Og, p12, LB.o0 H1, LB.p14 H1, LB.o10 H1, LB.q10_5 H1, LB.o15 H1, LB.l15 H1, mo, fd0, fd1, fd2, fd3, fd4, fd5, fd6, fd7, fd8, fd9, fd10, fd11, fd12, fd13, fd14, fd15, fd16, fd17, fd18, fd19, fd20, fd21, fd22, fd23, fd24, fd25, fd26, fd27, fd28, fd29, fd30, fd31, fd32, fd33, fd34, fd35, fd36, fd37, fd38, fd39, fd40, fd41, fd42, fd43, fd44, fd45, fd46, fd47, fd48, fd49, fd50, fd51, fd52, -Int.reduceToNat, -Int32.reduceToNatClampNeg, il0, il1, il2, il3, il4, il5, il6, il7, il8, il9, il10, il11, il12, il13, il14, il15, il16, il17, il18, il19, il20, il21, il22, il23, il24, il25, il26, il27, il28, il29, il30, il31, il32, il35, il36, il38, il40, il42, il43, il44, il45, il46, il47, il48, il49, il50, il51, il52, il57, il59, il60, il63, il64, il75, il80, il95, il96, il97, il98, il99, il100, il120, il122, il123, il127, il128, il135, il167, il175, il225, il249, il250, il255, il256, il360, il370, il384, il600, il700, il740, il900, il940, il1024, il1600, il4800, il64000, il125000, il262143, il1000000000, iI_toInt, iI_add, iI_sub, iI_mul, iI_neg, iI_lt, iI_le, iI_eq, iI_n, iI_in, iI_div, iI_mod, iI_shm, iI_and1, iI_and7, iI_and63, iI_shr3, iI_shr6, rd_I, ob, Option.some.injEq, exists_eq_left', exists_eq_left, true_and, and_true, fqI, fqJ, eq_self, true_or, or_true, bP_0, bP_0i, npP, bP_1i, bP_b, not_true_eq_false, not_false_eq_true, false_implies, true_implies, implies_true, Classical.not_not, and_self, cP, cP', ite_n]
  by_cases cz : s (167 + r) = 0
  · rw [ite_t cz]
    refine c_moor29 Rg Cg B (by omega) fun h' co => K h' (CO.from t.b2 ?_)
    rw [it_a fun _ => ite_t cz]
    exact co
  · rw [ite_f cz]
    refine c_fail Rg (by omega) fun g2 f2 fa2 t2 R2 FR => c_moor29 R2 (Cg.tf t2) B (by omega) fun h' co => K h' (CO.from (t.b2.trans t2.b2) ?_)
    have e : iteP (f1 = 0) (iteP (s (167 + r) = 0) (nuS T n m 1 99 p1 fun v q2 => okR (updT s (167 + r) v) N td q2) (bdR 3 (tkA T n m p))) (bdR f1 fa1) = iteP (f1 = 0) (iteP (s (167 + r) = 0) (bdR 0 0) (bdR 3 a1)) (bdR f1 fa1) := it_a fun u => by rw [ite_f cz, ite_f cz, (rok u).2.2.2.1]
    rw [e, FR.sn (by omega) cz]
    exact co
/-- a WANT more -/
theorem c_addWant {wh x1 x2 v : Int} (R : RD T n m h 2 2 3 f fa p a) (C : CL h fr s N td) (B : BA s td) (h5 : f = 0 → s 5 < 10) (bw : 0 ≤ wh ∧ wh ≤ 3) (b1 : 0 ≤ x1 ∧ x1 < 100) (b2 : 0 ≤ x2 ∧ x2 < 100) (bv : 0 ≤ v ∧ v < 100) {y1 y2 : Int} (e2 : f = 0 → x2 = if wh = 3 then 8 * y2 + y1 else y1) (K : ∀ h', CO T n m fr h h' (iteP (f = 0) (okR (wanU s wh x1 y1 y2 v) N td p) (bdR f fa)) → postV h') : wp_X2_addWant h 2 (iI wh) (iI x1) (iI x2) (iI v) postV := by
  have O := R.o
  have b := rd_bd h 2 10
  have sf := R.sf
  unfold wp_X2_addWant
  by_cases cf : f = 0
  · have H := C.H
    have p12 := C.ft
    have w0 := C.L.w0
    have hfr := C.f5
    obtain ⟨bb0, bb1, bb2, bb3, bb4, bb5⟩ := B.bds
    have h5 := h5 cf
    have e2 := e2 cf
    simp (disch := omega) only [O, fd0, fd1, fd2, fd3, fd4, fd5, fd6, fd7, fd8, fd9, fd10, fd11, fd12, fd13, fd14, fd15, fd16, fd17, fd18, fd19, fd20, fd21, fd22, fd23, fd24, fd25, fd26, fd27, fd28, fd29, fd30, fd31, fd32, fd33, fd34, fd35, fd36, fd37, fd38, fd39, fd40, fd41, fd42, fd43, fd44, fd45, fd46, fd47, fd48, fd49, fd50, fd51, fd52, sf, cf, p12, LB.o0 H, LB.p15 H, LB.o16 H, -Int.reduceToNat, -Int32.reduceToNatClampNeg, il0, il1, il2, il3, il4, il5, il6, il7, il8, il9, il10, il11, il12, il13, il14, il15, il16, il17, il18, il19, il20, il21, il22, il23, il24, il25, il26, il27, il28, il29, il30, il31, il32, il35, il36, il38, il40, il42, il43, il44, il45, il46, il47, il48, il49, il50, il51, il52, il57, il59, il60, il63, il64, il75, il80, il95, il96, il97, il98, il99, il100, il120, il122, il123, il127, il128, il135, il167, il175, il225, il249, il250, il255, il256, il360, il370, il384, il600, il700, il740, il900, il940, il1024, il1600, il4800, il64000, il125000, il262143, il1000000000, iI_toInt, iI_add, iI_sub, iI_mul, iI_neg, iI_lt, iI_le, iI_eq, iI_n, iI_in, iI_div, iI_mod, iI_shm, iI_and1, iI_and7, iI_and63, iI_shr3, iI_shr6, rd_I, ob, Option.some.injEq, exists_eq_left', exists_eq_left, true_and, and_true, fqI, fqJ, eq_self, true_or, or_true, bP_0, bP_0i, npP, bP_1i, bP_b, not_true_eq_false, not_false_eq_true, false_implies, true_implies, implies_true, Classical.not_not, and_self, cP, cP', ite_n, ite_t]
    unfold wp_X10_add
    simp (disch := omega) only [fd0, fd1, fd2, fd3, fd4, fd5, fd6, fd7, fd8, fd9, fd10, fd11, fd12, fd13, fd14, fd15, fd16, fd17, fd18, fd19, fd20, fd21, fd22, fd23, fd24, fd25, fd26, fd27, fd28, fd29, fd30, fd31, fd32, fd33, fd34, fd35, fd36, fd37, fd38, fd39, fd40, fd41, fd42, fd43, fd44, fd45, fd46, fd47, fd48, fd49, fd50, fd51, fd52, w0, LB.o16 H, LB.q16_1 H, LB.o17 H, LB.l17 H, -Int.reduceToNat, -Int32.reduceToNatClampNeg, il0, il1, il2, il3, il4, il5, il6, il7, il8, il9, il10, il11, il12, il13, il14, il15, il16, il17, il18, il19, il20, il21, il22, il23, il24, il25, il26, il27, il28, il29, il30, il31, il32, il35, il36, il38, il40, il42, il43, il44, il45, il46, il47, il48, il49, il50, il51, il52, il57, il59, il60, il63, il64, il75, il80, il95, il96, il97, il98, il99, il100, il120, il122, il123, il127, il128, il135, il167, il175, il225, il249, il250, il255, il256, il360, il370, il384, il600, il700, il740, il900, il940, il1024, il1600, il4800, il64000, il125000, il262143, il1000000000, iI_toInt, iI_add, iI_sub, iI_mul, iI_neg, iI_lt, iI_le, iI_eq, iI_n, iI_in, iI_div, iI_mod, iI_shm, iI_and1, iI_and7, iI_and63, iI_shr3, iI_shr6, rd_I, ob, Option.some.injEq, exists_eq_left', exists_eq_left, true_and, and_true, fqI, fqJ, eq_self, true_or, or_true, bP_0, bP_0i, npP, bP_1i, bP_b, not_true_eq_false, not_false_eq_true, false_implies, true_implies, implies_true, Classical.not_not, and_self, cP, cP', ite_n, ite_f]
    intro g1 e1
    obtain ⟨f1, r1⟩ := wI (i := s 5) (by omega) (by omega) (by omega) e1
    have H1 : LB g1 fr := LB.same f1.1 f1.2.2.1 f1.2.2.2.1 f1.aPe H
    have w1 : rd g1 (fr + 16) 0 = s 5 := by rw [f1.row (by simp <;> omega)]; exact w0
    simp (disch := omega) only [fd0, fd1, fd2, fd3, fd4, fd5, fd6, fd7, fd8, fd9, fd10, fd11, fd12, fd13, fd14, fd15, fd16, fd17, fd18, fd19, fd20, fd21, fd22, fd23, fd24, fd25, fd26, fd27, fd28, fd29, fd30, fd31, fd32, fd33, fd34, fd35, fd36, fd37, fd38, fd39, fd40, fd41, fd42, fd43, fd44, fd45, fd46, fd47, fd48, fd49, fd50, fd51, fd52, w1, LB.o16 H1, LB.q16_2 H1, LB.o18 H1, LB.l18 H1, -Int.reduceToNat, -Int32.reduceToNatClampNeg, il0, il1, il2, il3, il4, il5, il6, il7, il8, il9, il10, il11, il12, il13, il14, il15, il16, il17, il18, il19, il20, il21, il22, il23, il24, il25, il26, il27, il28, il29, il30, il31, il32, il35, il36, il38, il40, il42, il43, il44, il45, il46, il47, il48, il49, il50, il51, il52, il57, il59, il60, il63, il64, il75, il80, il95, il96, il97, il98, il99, il100, il120, il122, il123, il127, il128, il135, il167, il175, il225, il249, il250, il255, il256, il360, il370, il384, il600, il700, il740, il900, il940, il1024, il1600, il4800, il64000, il125000, il262143, il1000000000, iI_toInt, iI_add, iI_sub, iI_mul, iI_neg, iI_lt, iI_le, iI_eq, iI_n, iI_in, iI_div, iI_mod, iI_shm, iI_and1, iI_and7, iI_and63, iI_shr3, iI_shr6, rd_I, ob, Option.some.injEq, exists_eq_left', exists_eq_left, true_and, and_true, fqI, fqJ, eq_self, true_or, or_true, bP_0, bP_0i, npP, bP_1i, bP_b, not_true_eq_false, not_false_eq_true, false_implies, true_implies, implies_true, Classical.not_not, and_self]
    intro g2 e2'
    obtain ⟨f2, r2⟩ := wI (i := s 5) (by omega) (by omega) (by omega) e2'
    have H2 : LB g2 fr := LB.same f2.1 f2.2.2.1 f2.2.2.2.1 f2.aPe H1
    have w2 : rd g2 (fr + 16) 0 = s 5 := by rw [f2.row (by simp <;> omega)]; exact w1
    simp (disch := omega) only [fd0, fd1, fd2, fd3, fd4, fd5, fd6, fd7, fd8, fd9, fd10, fd11, fd12, fd13, fd14, fd15, fd16, fd17, fd18, fd19, fd20, fd21, fd22, fd23, fd24, fd25, fd26, fd27, fd28, fd29, fd30, fd31, fd32, fd33, fd34, fd35, fd36, fd37, fd38, fd39, fd40, fd41, fd42, fd43, fd44, fd45, fd46, fd47, fd48, fd49, fd50, fd51, fd52, w2, LB.o16 H2, LB.q16_3 H2, LB.o19 H2, LB.l19 H2, -Int.reduceToNat, -Int32.reduceToNatClampNeg, il0, il1, il2, il3, il4, il5, il6, il7, il8, il9, il10, il11, il12, il13, il14, il15, il16, il17, il18, il19, il20, il21, il22, il23, il24, il25, il26, il27, il28, il29, il30, il31, il32, il35, il36, il38, il40, il42, il43, il44, il45, il46, il47, il48, il49, il50, il51, il52, il57, il59, il60, il63, il64, il75, il80, il95, il96, il97, il98, il99, il100, il120, il122, il123, il127, il128, il135, il167, il175, il225, il249, il250, il255, il256, il360, il370, il384, il600, il700, il740, il900, il940, il1024, il1600, il4800, il64000, il125000, il262143, il1000000000, iI_toInt, iI_add, iI_sub, iI_mul, iI_neg, iI_lt, iI_le, iI_eq, iI_n, iI_in, iI_div, iI_mod, iI_shm, iI_and1, iI_and7, iI_and63, iI_shr3, iI_shr6, rd_I, ob, Option.some.injEq, exists_eq_left', exists_eq_left, true_and, and_true, fqI, fqJ, eq_self, true_or, or_true, bP_0, bP_0i, npP, bP_1i, bP_b, not_true_eq_false, not_false_eq_true, false_implies, true_implies, implies_true, Classical.not_not, and_self]
    intro g3 e3
    obtain ⟨f3, r3⟩ := wI (i := s 5) (by omega) (by omega) (by omega) e3
    have H3 : LB g3 fr := LB.same f3.1 f3.2.2.1 f3.2.2.2.1 f3.aPe H2
    have w3 : rd g3 (fr + 16) 0 = s 5 := by rw [f3.row (by simp <;> omega)]; exact w2
    simp (disch := omega) only [fd0, fd1, fd2, fd3, fd4, fd5, fd6, fd7, fd8, fd9, fd10, fd11, fd12, fd13, fd14, fd15, fd16, fd17, fd18, fd19, fd20, fd21, fd22, fd23, fd24, fd25, fd26, fd27, fd28, fd29, fd30, fd31, fd32, fd33, fd34, fd35, fd36, fd37, fd38, fd39, fd40, fd41, fd42, fd43, fd44, fd45, fd46, fd47, fd48, fd49, fd50, fd51, fd52, w3, LB.o16 H3, LB.q16_4 H3, LB.o20 H3, LB.l20 H3, -Int.reduceToNat, -Int32.reduceToNatClampNeg, il0, il1, il2, il3, il4, il5, il6, il7, il8, il9, il10, il11, il12, il13, il14, il15, il16, il17, il18, il19, il20, il21, il22, il23, il24, il25, il26, il27, il28, il29, il30, il31, il32, il35, il36, il38, il40, il42, il43, il44, il45, il46, il47, il48, il49, il50, il51, il52, il57, il59, il60, il63, il64, il75, il80, il95, il96, il97, il98, il99, il100, il120, il122, il123, il127, il128, il135, il167, il175, il225, il249, il250, il255, il256, il360, il370, il384, il600, il700, il740, il900, il940, il1024, il1600, il4800, il64000, il125000, il262143, il1000000000, iI_toInt, iI_add, iI_sub, iI_mul, iI_neg, iI_lt, iI_le, iI_eq, iI_n, iI_in, iI_div, iI_mod, iI_shm, iI_and1, iI_and7, iI_and63, iI_shr3, iI_shr6, rd_I, ob, Option.some.injEq, exists_eq_left', exists_eq_left, true_and, and_true, fqI, fqJ, eq_self, true_or, or_true, bP_0, bP_0i, npP, bP_1i, bP_b, not_true_eq_false, not_false_eq_true, false_implies, true_implies, implies_true, Classical.not_not, and_self]
    intro g4 e4
    obtain ⟨f4, r4⟩ := wI (i := s 5) (by omega) (by omega) (by omega) e4
    have H4 : LB g4 fr := LB.same f4.1 f4.2.2.1 f4.2.2.2.1 f4.aPe H3
    have w4 : rd g4 (fr + 16) 0 = s 5 := by rw [f4.row (by simp <;> omega)]; exact w3
    simp (disch := omega) only [fd0, fd1, fd2, fd3, fd4, fd5, fd6, fd7, fd8, fd9, fd10, fd11, fd12, fd13, fd14, fd15, fd16, fd17, fd18, fd19, fd20, fd21, fd22, fd23, fd24, fd25, fd26, fd27, fd28, fd29, fd30, fd31, fd32, fd33, fd34, fd35, fd36, fd37, fd38, fd39, fd40, fd41, fd42, fd43, fd44, fd45, fd46, fd47, fd48, fd49, fd50, fd51, fd52, w4, LB.o16 H4, -Int.reduceToNat, -Int32.reduceToNatClampNeg, il0, il1, il2, il3, il4, il5, il6, il7, il8, il9, il10, il11, il12, il13, il14, il15, il16, il17, il18, il19, il20, il21, il22, il23, il24, il25, il26, il27, il28, il29, il30, il31, il32, il35, il36, il38, il40, il42, il43, il44, il45, il46, il47, il48, il49, il50, il51, il52, il57, il59, il60, il63, il64, il75, il80, il95, il96, il97, il98, il99, il100, il120, il122, il123, il127, il128, il135, il167, il175, il225, il249, il250, il255, il256, il360, il370, il384, il600, il700, il740, il900, il940, il1024, il1600, il4800, il64000, il125000, il262143, il1000000000, iI_toInt, iI_add, iI_sub, iI_mul, iI_neg, iI_lt, iI_le, iI_eq, iI_n, iI_in, iI_div, iI_mod, iI_shm, iI_and1, iI_and7, iI_and63, iI_shr3, iI_shr6, rd_I, ob, Option.some.injEq, exists_eq_left', exists_eq_left, true_and, and_true, fqI, fqJ, eq_self, true_or, or_true, bP_0, bP_0i, npP, bP_1i, bP_b, not_true_eq_false, not_false_eq_true, false_implies, true_implies, implies_true, Classical.not_not, and_self]
    intro g5 e5
    obtain ⟨f5, r5⟩ := wI (i := 0) (by omega) (by omega) (by omega) e5
    have R5 := ((((R.bI (fr := fr) (j := fr + 17) (by omega) hfr f1).bI (fr := fr) (j := fr + 18) (by omega) hfr f2).bI (fr := fr) (j := fr + 19) (by omega) hfr f3).bI (fr := fr) (j := fr + 20) (by omega) hfr f4).bI (fr := fr) (j := fr + 16) (by omega) hfr f5
    have FF : Fr (2 :: blk fr) (blk fr) [] h g5 := (f1.bI (by omega)).trans ((f2.bI (by omega)).trans ((f3.bI (by omega)).trans ((f4.bI (by omega)).trans (f5.bI (by omega)))))
    refine K g5 (CO.fin FF R5 fun _ => ?_)
    obtain ⟨_, L, M, st, ft, tt, fb⟩ := C
    have row : ∀ j, j ≤ 20 ∧ ¬ (16 ≤ j) → rd g5 (fr + j) = rd h (fr + j) := fun j hj => by rw [f5.row (by simp <;> omega), f4.row (by simp <;> omega), f3.row (by simp <;> omega), f2.row (by simp <;> omega), f1.row (by simp <;> omega)]
    have q17 : rd g5 (fr + 17) = updT (rd h (fr + 17)) (s 5) wh := by rw [f5.row (by simp <;> omega), f4.row (by simp <;> omega), f3.row (by simp <;> omega), f2.row (by simp <;> omega), r1]
    have q18 : rd g5 (fr + 18) = updT (rd h (fr + 18)) (s 5) x1 := by rw [f5.row (by simp <;> omega), f4.row (by simp <;> omega), f3.row (by simp <;> omega), r2, f1.row (by simp <;> omega)]
    have q19 : rd g5 (fr + 19) = updT (rd h (fr + 19)) (s 5) x2 := by rw [f5.row (by simp <;> omega), f4.row (by simp <;> omega), r3, f2.row (by simp <;> omega), f1.row (by simp <;> omega)]
    have q20 : rd g5 (fr + 20) = updT (rd h (fr + 20)) (s 5) v := by rw [f5.row (by simp <;> omega), r4, f3.row (by simp <;> omega), f2.row (by simp <;> omega), f1.row (by simp <;> omega)]
    have E0 : ∀ j, (j : Int) = j → rd g5 fr j = rd h fr j := fun j _ => by rw [show fr = fr + 0 from rfl, row 0 (by omega)]
    have E10 : ∀ j, (j : Int) = j → rd g5 (fr + 10) j = rd h (fr + 10) j := fun j _ => by rw [row 10 (by omega)]
    have jow : ∀ j, j ≤ 20 → aJ g5 (fr + j) = aJ h (fr + j) := fun j _ => by rw [f5.2.2.2.2.2.1 _ (by simp), f4.2.2.2.2.2.1 _ (by simp), f3.2.2.2.2.2.1 _ (by simp), f2.2.2.2.2.2.1 _ (by simp), f1.2.2.2.2.2.1 _ (by simp)]
    have jow0 : ∀ j : Nat, j ≤ 20 → aJ g5 fr j = aJ h fr j := fun j _ => by rw [show fr = fr + 0 from rfl, jow 0 (by omega)]
    have es : ∀ i, (i ≠ 5 ∧ (i < 175 + 5 * s 5 ∨ 175 + 5 * s 5 + 4 < i)) → wanU s wh x1 y1 y2 v i = s i := fun i hi => by unfold wanU; rw [updT_n (by omega), updT_n (by omega), updT_n (by omega), updT_n (by omega), updT_n (by omega), updT_n (by omega)]
    have s5 : wanU s wh x1 y1 y2 v 5 = s 5 + 1 := by unfold wanU; rw [updT_s]
    have sA : wanU s wh x1 y1 y2 v (175 + 5 * s 5) = wh := by unfold wanU; rw [updT_n (by omega), updT_n (by omega), updT_n (by omega), updT_n (by omega), updT_n (by omega), updT_s]
    have sB : wanU s wh x1 y1 y2 v (175 + 5 * s 5 + 1) = x1 := by unfold wanU; rw [updT_n (by omega), updT_n (by omega), updT_n (by omega), updT_n (by omega), updT_s]
    have sC : wanU s wh x1 y1 y2 v (175 + 5 * s 5 + 2) = y1 := by unfold wanU; rw [updT_n (by omega), updT_n (by omega), updT_n (by omega), updT_s]
    have sD : wanU s wh x1 y1 y2 v (175 + 5 * s 5 + 3) = y2 := by unfold wanU; rw [updT_n (by omega), updT_n (by omega), updT_s]
    have sE : wanU s wh x1 y1 y2 v (175 + 5 * s 5 + 4) = v := by unfold wanU; rw [updT_n (by omega), updT_s]
    exact ⟨LB.same f5.1 f5.2.2.1 f5.2.2.2.1 f5.aPe H4, ⟨(by rw [E0 0 (by omega), es 0 (by omega)]; exact L.c0), (by rw [E0 1 (by omega), es 1 (by omega)]; exact L.c1), (by rw [E0 5 (by omega), es 2 (by omega)]; exact L.c5), (by rw [E0 11 (by omega), es 3 (by omega)]; exact L.c11), (by rw [E10 0 (by omega), es 4 (by omega)]; exact L.q0), (by rw [r5, updT_s, s5]), (fun x y x0 x1 y0 y1 => by rw [es 0 (by omega)] at x1; rw [es 1 (by omega)] at y1; rw [row 1 (by omega), es _ (by omega)]; exact L.gr x y x0 x1 y0 y1), (fun g x y g0 g1 x0 x1 y0 y1 => by rw [es 0 (by omega), es 1 (by omega), es (11 + 8 * y + x) (by omega), jow 2 (by omega)]; exact L.up g x y g0 g1 x0 x1 y0 y1), (fun i i0 i1 => by rw [row 3 (by omega), es _ (by omega)]; exact L.td i i0 i1), (fun r r0 r1 => by rw [es 2 (by omega)] at r1; rw [row 5 (by omega), es _ (by omega)]; exact L.wi r r0 r1), (fun r r0 r1 => by rw [es 2 (by omega)] at r1; rw [row 6 (by omega), es _ (by omega)]; exact L.hi r r0 r1), (fun r r0 r1 => by rw [es 2 (by omega)] at r1; rw [row 7 (by omega), es _ (by omega)]; exact L.dr r r0 r1), (fun r r0 r1 => by rw [es 3 (by omega)] at r1; rw [row 9 (by omega), es _ (by omega), es _ (by omega)]; exact L.po r r0 r1), (fun r r0 r1 => by rw [es 4 (by omega)] at r1; rw [row 11 (by omega), es _ (by omega)]; exact L.ro r r0 r1), (fun r r0 r1 => by rw [es 4 (by omega)] at r1; rw [row 12 (by omega), es _ (by omega)]; exact L.rp r r0 r1), (fun r r0 r1 => by rw [es 4 (by omega)] at r1; rw [row 13 (by omega), es _ (by omega)]; exact L.rq r r0 r1), (fun r r0 r1 => by rw [es 4 (by omega)] at r1; rw [row 14 (by omega), es _ (by omega)]; exact L.rh r r0 r1), (fun r r0 r1 => by rw [row 15 (by omega), es _ (by omega)]; exact L.mo r r0 r1), (fun k k0 k1 => by rw [s5] at k1; rw [q17]; by_cases ck : k = s 5; { rw [ck, updT_s, sA] }; { rw [updT_n ck, es _ (by omega)]; exact L.wk k k0 (by omega) }), (fun k k0 k1 => by rw [s5] at k1; rw [q18]; by_cases ck : k = s 5; { rw [ck, updT_s, sB] }; { rw [updT_n ck, es _ (by omega)]; exact L.wh k k0 (by omega) }), (fun k k0 k1 => by rw [s5] at k1; rw [q19]; by_cases ck : k = s 5; { rw [ck, updT_s, sA, sC, sD]; exact e2 }; { rw [updT_n ck, es (175 + 5 * k) (by omega), es (175 + 5 * k + 3) (by omega), es (175 + 5 * k + 2) (by omega)]; exact L.wt k k0 (by omega) }), (fun k k0 k1 => by rw [s5] at k1; rw [q20]; by_cases ck : k = s 5; { rw [ck, updT_s, sE] }; { rw [updT_n ck, es _ (by omega)]; exact L.ww k k0 (by omega) }), (fun x y x0 x1 y0 y1 => by rw [es 6 (by omega), es 7 (by omega), es 8 (by omega), es 9 (by omega), ← L.sq x y x0 x1 y0 y1, jow0 13 (by omega)])⟩, fun r r0 r1 => by rw [es 2 (by omega)] at r1; rw [row 4 (by omega)]; exact M r r0 r1, fun r r0 r1 => by rw [es 2 (by omega)] at r1; rw [row 8 (by omega), es _ (by omega), es _ (by omega)]; exact st r r0 r1, by rw [f5.aPe, f4.aPe, f3.aPe, f2.aPe, f1.aPe]; exact p12, by rw [f5.row (by simp <;> omega), f4.row (by simp <;> omega), f3.row (by simp <;> omega), f2.row (by simp <;> omega), f1.row (by simp <;> omega)]; exact tt, fb⟩
  · simp (disch := omega) only [O, fd0, fd1, fd2, fd3, fd4, fd5, fd6, fd7, fd8, fd9, fd10, fd11, fd12, fd13, fd14, fd15, fd16, fd17, fd18, fd19, fd20, fd21, fd22, fd23, fd24, fd25, fd26, fd27, fd28, fd29, fd30, fd31, fd32, fd33, fd34, fd35, fd36, fd37, fd38, fd39, fd40, fd41, fd42, fd43, fd44, fd45, fd46, fd47, fd48, fd49, fd50, fd51, fd52, sf, -Int.reduceToNat, -Int32.reduceToNatClampNeg, il0, il1, il2, il3, il4, il5, il6, il7, il8, il9, il10, il11, il12, il13, il14, il15, il16, il17, il18, il19, il20, il21, il22, il23, il24, il25, il26, il27, il28, il29, il30, il31, il32, il35, il36, il38, il40, il42, il43, il44, il45, il46, il47, il48, il49, il50, il51, il52, il57, il59, il60, il63, il64, il75, il80, il95, il96, il97, il98, il99, il100, il120, il122, il123, il127, il128, il135, il167, il175, il225, il249, il250, il255, il256, il360, il370, il384, il600, il700, il740, il900, il940, il1024, il1600, il4800, il64000, il125000, il262143, il1000000000, iI_toInt, iI_add, iI_sub, iI_mul, iI_neg, iI_lt, iI_le, iI_eq, iI_n, iI_in, iI_div, iI_mod, iI_shm, iI_and1, iI_and7, iI_and63, iI_shr3, iI_shr6, rd_I, ob, Option.some.injEq, exists_eq_left', exists_eq_left, true_and, and_true, fqI, fqJ, eq_self, true_or, or_true, bP_0, bP_0i, npP, bP_1i, bP_b, not_true_eq_false, not_false_eq_true, false_implies, true_implies, implies_true, Classical.not_not, and_self, cP, cP', ite_n, ite_f]
    exact K h (CO.fin (tfF.refl _ _).b2 R fun z => absurd z cf)
theorem c_countWant (R : RD T n m h 2 2 3 0 fa p a) (C : CL h fr s N td) (B : BA s td) (K : ∀ h' f' fa', tfF h h' 2 → RD T n m h' 2 2 3 f' fa' p a → (f' = 0 → s 5 < 10) → (∀ X, iteP (s 5 < 10) X (bdR 4 a) = iteP (f' = 0) X (bdR f' fa')) → postV h') : wp_X2_countWant h 2 postV := by
  have O := R.o
  have H := C.H
  have p12 := C.ft
  have w0 := C.L.w0
  obtain ⟨bb0, bb1, bb2, bb3, bb4, bb5⟩ := B.bds
  unfold wp_X2_countWant
  simp (disch := omega) only [O, fd0, fd1, fd2, fd3, fd4, fd5, fd6, fd7, fd8, fd9, fd10, fd11, fd12, fd13, fd14, fd15, fd16, fd17, fd18, fd19, fd20, fd21, fd22, fd23, fd24, fd25, fd26, fd27, fd28, fd29, fd30, fd31, fd32, fd33, fd34, fd35, fd36, fd37, fd38, fd39, fd40, fd41, fd42, fd43, fd44, fd45, fd46, fd47, fd48, fd49, fd50, fd51, fd52, p12, LB.o0 H, LB.p15 H, LB.o16 H, w0, -Int.reduceToNat, -Int32.reduceToNatClampNeg, il0, il1, il2, il3, il4, il5, il6, il7, il8, il9, il10, il11, il12, il13, il14, il15, il16, il17, il18, il19, il20, il21, il22, il23, il24, il25, il26, il27, il28, il29, il30, il31, il32, il35, il36, il38, il40, il42, il43, il44, il45, il46, il47, il48, il49, il50, il51, il52, il57, il59, il60, il63, il64, il75, il80, il95, il96, il97, il98, il99, il100, il120, il122, il123, il127, il128, il135, il167, il175, il225, il249, il250, il255, il256, il360, il370, il384, il600, il700, il740, il900, il940, il1024, il1600, il4800, il64000, il125000, il262143, il1000000000, iI_toInt, iI_add, iI_sub, iI_mul, iI_neg, iI_lt, iI_le, iI_eq, iI_n, iI_in, iI_div, iI_mod, iI_shm, iI_and1, iI_and7, iI_and63, iI_shr3, iI_shr6, rd_I, ob, Option.some.injEq, exists_eq_left', exists_eq_left, true_and, and_true, fqI, fqJ, eq_self, true_or, or_true, bP_0, bP_0i, npP, bP_1i, bP_b, not_true_eq_false, not_false_eq_true, false_implies, true_implies, implies_true, Classical.not_not, and_self, cP, cP', ite_n]
  by_cases c0 : s 5 < 10
  · rw [ite_t c0]
    exact K h 0 fa (tfF.refl _ _) R (fun _ => c0) (fun X => by rw [ite_t c0, ite_t rfl])
  · rw [ite_f c0]
    exact c_fail0 R (by omega) fun g t Rg => K g 4 a t Rg (fun z => by omega) (fun X => by rw [ite_f c0, ite_f (by omega)])
theorem c_pair {wh : Int} (hw : 0 ≤ wh ∧ wh ≤ 1) (R : RD T n m h 2 2 3 0 fa p a) (C : CL h fr s N td) (B : BA s td) (K : ∀ h', CO T n m fr h h' (sPair T n m s N td wh a p) → postV h') : wp_X2_readPairWant h 2 (iI wh) postV := by
  unfold sPair at K
  unfold wp_X2_readPairWant
  have hfr := C.f5
  obtain ⟨bb0, bb1, bb2, bb3, bb4, bb5⟩ := B.bds
  refine ⟨R.o, c_countWant R C B fun g f1 fa1 t Rg h5 E1 => ?_⟩
  rw [E1] at K
  have Cg := C.tf t
  refine ⟨Rg.o, fr, Cg.ft, Rg.o, c_readRaft Rg Cg.H Cg.L.c5 bb2 Cg.M (by omega) fun g2 f2 fa2 p2 a2 ra t2 R2 RR => ?_⟩
  rw [RR.st] at K
  have C2 := Cg.tf t2
  refine ⟨R2.o, fr, C2.ft, R2.o, c_readRaft R2 C2.H C2.L.c5 bb2 C2.M (by omega) fun g3 f3 fa3 p3 a3 rb t3 R3 RR2 => ?_⟩
  rw [RR2.st] at K
  have C3 := C2.tf t3
  have ra' := RR.rng bb2.1
  have rb' := RR2.rng bb2.1
  have T3 : Fr (2 :: blk fr) (blk fr) [] h g3 := t.b2.trans (t2.b2.trans t3.b2)
  have z5 : f3 = 0 → s 5 < 10 := fun z => h5 (RR.ok (RR2.ok z bb2.1).1 bb2.1).1
  have tail : ∀ {g4 : AH} {f4 fa4 : Int}, tfF g3 g4 2 → RD T n m g4 2 2 3 f4 fa4 p3 a3 → (f4 = 0 → s 5 < 10) → (∀ h', CO T n m fr g4 h' (iteP (f4 = 0) (nuS T n m 1 99 p3 fun v q3 => okR (wanU s wh ra rb 0 v) N td q3) (bdR f4 fa4)) → postV h') → wb_X2_readPairWant_32 g4 2 (iI wh) (iI ra) (iI rb) postV := fun {g4} {f4 fa4} t4 R4 z4 K4 => by
    unfold wb_X2_readPairWant_32
    refine ⟨R4.o, ?_⟩
    rw [show (1 : Int32) = iI 1 from rfl, show (99 : Int32) = iI 99 from rfl]
    refine c_readNumber R4 (by omega) (by omega) fun g5 f5 fa5 p5 a5 v t5 R5 NR => ?_
    rw [NR.st] at K4
    have vr := NR.rng
    refine ⟨R5.o, c_addWant R5 ((C3.tf t4).tf t5) B (fun z => z4 (NR.ok z).1) (by omega) (by omega) (by omega) (by omega) (fun _ => by rw [if_neg (by omega)]) fun h' co => K4 h' (CO.from t5.b2 co)⟩
  refine ⟨fun z => ?_, fun z => ⟨R3.o, ?_⟩⟩
  · rw [iI_eq (by omega) (by omega) (by omega) (by omega)] at z
    refine tail (tfF.refl _ _) R3 z5 fun h' co => K h' (CO.from T3 ?_)
    rw [it_a fun _ => ite_f z]
    exact co
  · rw [iI_eq (by omega) (by omega) (by omega) (by omega)] at z
    rw [show (3 : Int32) = iI 3 from rfl]
    refine c_fail R3 (by omega) fun g4 f4 fa4 t4 R4 FR => tail t4 R4 (fun z4 => by rcases FR with u | u <;> omega) fun h' co => K h' (CO.from (T3.trans t4.b2) ?_)
    rw [it_a fun u => show iteP (ra = rb) (bdR 3 (tkA T n m p2)) _ = iteP (ra = rb) (bdR 3 a3) (bdR 0 0) by rw [ite_t z, ite_t z, (RR2.ok u bb2.1).2.2.2.1], FR.st (by omega) z]
    exact co
theorem c_sun (R : RD T n m h 2 2 3 0 fa p a) (C : CL h fr s N td) (B : BA s td) (K : ∀ h', CO T n m fr h h' (sSun T n m s N td a p) → postV h') : wp_X2_readSun h 2 postV := by
  unfold sSun at K
  unfold wp_X2_readSun
  have hfr := C.f5
  obtain ⟨bb0, bb1, bb2, bb3, bb4, bb5⟩ := B.bds
  refine ⟨R.o, c_countWant R C B fun g f1 fa1 t Rg h5 E1 => ?_⟩
  rw [E1] at K
  have Cg := C.tf t
  refine ⟨Rg.o, fr, Cg.ft, Rg.o, c_readRaft Rg Cg.H Cg.L.c5 bb2 Cg.M (by omega) fun g2 f2 fa2 p2 a2 ra t2 R2 RR => ?_⟩
  rw [RR.st] at K
  refine ⟨R2.o, c_readSide R2 fun g3 f3 fa3 p3 a3 sd t3 R3 SR => ?_⟩
  rw [SR.st] at K
  refine ⟨R3.o, ?_⟩
  rw [show (1 : Int32) = iI 1 from rfl, show (99 : Int32) = iI 99 from rfl]
  refine c_readNumber R3 (by omega) (by omega) fun g4 f4 fa4 p4 a4 v t4 R4 NR => ?_
  rw [NR.st] at K
  have vr := NR.rng
  have ra' := RR.rng bb2.1
  have sb : 0 ≤ sd ∧ sd ≤ 3 := by rcases SR with u | u | u <;> omega
  rw [show (2 : Int32) = iI 2 from rfl]
  exact ⟨R4.o, c_addWant R4 (((Cg.tf t2).tf t3).tf t4) B (fun z => h5 (RR.ok (SR.ok (NR.ok z).1).1 bb2.1).1) (by omega) (by omega) (by omega) (by omega) (fun _ => by rw [if_neg (by omega)]) fun h' co => K h' (CO.from (t.b2.trans (t2.b2.trans (t3.b2.trans t4.b2))) co)⟩
theorem c_lies (R : RD T n m h 2 2 3 0 fa p a) (C : CL h fr s N td) (B : BA s td) (K : ∀ h', CO T n m fr h h' (sLies T n m s N td a p) → postV h') : wp_X2_readLies h 2 postV := by
  unfold sLies at K
  unfold wp_X2_readLies
  have hfr := C.f5
  obtain ⟨bb0, bb1, bb2, bb3, bb4, bb5⟩ := B.bds
  refine ⟨R.o, c_countWant R C B fun g f1 fa1 t Rg h5 E1 => ?_⟩
  rw [E1] at K
  have Cg := C.tf t
  refine ⟨Rg.o, fr, Cg.ft, Rg.o, c_readRaft Rg Cg.H Cg.L.c5 bb2 Cg.M (by omega) fun g2 f2 fa2 p2 a2 ra t2 R2 RR => ?_⟩
  rw [RR.st] at K
  have C2 := Cg.tf t2
  refine ⟨R2.o, c_readCell R2 C2.H C2.ft C2.L.c0 C2.L.c1 bb0 bb1 (by omega) fun g3 f3 fa3 p3 a3 v3 t3 R3 CR => ?_⟩
  obtain ⟨x, y, q1, E3, hv, ok3⟩ := CR.st (ok := fun x y _ q2 => nuS T n m 1 99 q2 fun v q3 => okR (wanU s 3 ra x y v) N td q3)
  rw [E3] at K
  have vb : 0 ≤ v3 ∧ v3 < 64 := by
    by_cases z : f3 = 0
    · rw [ite_t z] at hv
      have := ok3 z
      omega
    · rw [ite_f z] at hv; omega
  refine ⟨R3.o, ?_⟩
  rw [show (1 : Int32) = iI 1 from rfl, show (99 : Int32) = iI 99 from rfl]
  refine c_readNumber R3 (by omega) (by omega) fun g4 f4 fa4 p4 a4 v t4 R4 NR => ?_
  rw [NR.st] at K
  have vr := NR.rng
  have ra' := RR.rng bb2.1
  rw [show (3 : Int32) = iI 3 from rfl]
  exact ⟨R4.o, c_addWant R4 ((C2.tf t3).tf t4) B (fun z => h5 (RR.ok (ok3 (NR.ok z).1).1 bb2.1).1) (by omega) (by omega) (by omega) (by omega) (fun z => by rw [if_pos rfl, hv, ite_t (NR.ok z).1]) fun h' co => K h' (CO.from (t.b2.trans (t2.b2.trans (t3.b2.trans t4.b2))) co)⟩
end MOR
