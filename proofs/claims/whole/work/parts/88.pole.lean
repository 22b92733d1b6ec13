/-! LINES of the class: pole, square -/
section POL
variable {h h1 h2 h' h0 : AH} {fr tx ci tb : Nat} {postV : AH → Prop} {post : AH → Int32 → Prop} {a b c d r x y n m p f fa q e k i lo hi v w td : Int} {T s : Int → Int} {l : List Int} {N : Int → List Int}
theorem CL.E0 (C : CL h fr s N td) : LR h fr s := C.L
def hitP (s : Int → Int) (c i : Int) : Prop := ∃ k, 0 ≤ k ∧ k < i ∧ 8 * s (123 + 2 * k + 1) + s (123 + 2 * k) = c
theorem c_poleEnd {K25 : AH → Nat → Int32 → Int32 → Prop} (R : RD T n m h 2 2 3 f fa p a) (C : CL h fr s N td) (B : BA s td) (h3 : s 3 < 6) (hc : 0 ≤ c ∧ c < 64) (he : f = 0 → c = 8 * y + x) (K : ∀ h', CO T n m fr h h' (iteP (f = 0) (okR (polU s x y) N td p) (bdR f fa)) → postV h') : wb_X2_readPole_25 K25 h 2 (iI c) (iI (s 3)) postV := by
  have O := R.o
  have H := C.H
  have p12 := C.ft
  have w0 := C.L.c11
  have hfr := C.f5
  obtain ⟨bb0, bb1, bb2, bb3, bb4, bb5⟩ := B.bds
  unfold wb_X2_readPole_25
  simp (disch := omega) only [O, fd0, fd1, fd2, fd3, fd4, fd5, fd6, fd7, fd8, fd9, fd10, fd11, fd12, fd13, fd14, fd15, fd16, fd17, fd18, fd19, fd20, fd21, fd22, fd23, fd24, fd25, fd26, fd27, fd28, fd29, fd30, fd31, fd32, fd33, fd34, fd35, fd36, fd37, fd38, fd39, fd40, fd41, fd42, fd43, fd44, fd45, fd46, fd47, fd48, fd49, fd50, fd51, fd52, p12, LB.o0 H, w0, LB.p12 H, LB.o9 H, LB.l9 H, -Int.reduceToNat, -Int32.reduceToNatClampNeg, il0, il1, il2, il3, il4, il5, il6, il7, il8, il9, il10, il11, il12, il13, il14, il15, il16, il17, il18, il19, il20, il21, il22, il23, il24, il25, il26, il27, il28, il29, il30, il31, il32, il35, il36, il38, il40, il42, il43, il44, il45, il46, il47, il48, il49, il50, il51, il52, il57, il59, il60, il63, il64, il75, il80, il95, il96, il97, il98, il99, il100, il120, il122, il123, il127, il128, il135, il167, il175, il225, il249, il250, il255, il256, il360, il370, il384, il600, il700, il740, il900, il940, il1024, il1600, il4800, il64000, il125000, il262143, il1000000000, iI_toInt, iI_add, iI_sub, iI_mul, iI_neg, iI_lt, iI_le, iI_eq, iI_n, iI_in, iI_div, iI_mod, iI_shm, iI_and1, iI_and7, iI_and63, iI_shr3, iI_shr6, rd_I, ob, Option.some.injEq, exists_eq_left', exists_eq_left, true_and, and_true, fqI, fqJ, eq_self, true_or, or_true, bP_0, bP_0i, npP, bP_1i, bP_b, not_true_eq_false, not_false_eq_true, false_implies, true_implies, implies_true, Classical.not_not, and_self, cP, cP', ite_n, ite_t]
  intro g1 e1
  obtain ⟨f1, r1⟩ := wI (i := s 3) (by omega) (by omega) (by omega) e1
  have H1 : LB g1 fr := LB.same f1.1 f1.2.2.1 f1.2.2.2.1 f1.aPe H
  have O1 : ob g1 2 2 := f1.gr.ob O
  have p1 : aP g1 2 12 = some fr := by rw [f1.aPe]; exact p12
  have w1 : rd g1 fr 11 = s 3 := by rw [f1.row (by simp <;> omega)]; exact w0
  simp (disch := omega) only [O1, p1, fd0, fd1, fd2, fd3, fd4, fd5, fd6, fd7, fd8, fd9, fd10, fd11, fd12, fd13, fd14, fd15, fd16, fd17, fd18, fd19, fd20, fd21, fd22, fd23, fd24, fd25, fd26, fd27, fd28, fd29, fd30, fd31, fd32, fd33, fd34, fd35, fd36, fd37, fd38, fd39, fd40, fd41, fd42, fd43, fd44, fd45, fd46, fd47, fd48, fd49, fd50, fd51, fd52, w1, LB.o0 H1, -Int.reduceToNat, -Int32.reduceToNatClampNeg, il0, il1, il2, il3, il4, il5, il6, il7, il8, il9, il10, il11, il12, il13, il14, il15, il16, il17, il18, il19, il20, il21, il22, il23, il24, il25, il26, il27, il28, il29, il30, il31, il32, il35, il36, il38, il40, il42, il43, il44, il45, il46, il47, il48, il49, il50, il51, il52, il57, il59, il60, il63, il64, il75, il80, il95, il96, il97, il98, il99, il100, il120, il122, il123, il127, il128, il135, il167, il175, il225, il249, il250, il255, il256, il360, il370, il384, il600, il700, il740, il900, il940, il1024, il1600, il4800, il64000, il125000, il262143, il1000000000, iI_toInt, iI_add, iI_sub, iI_mul, iI_neg, iI_lt, iI_le, iI_eq, iI_n, iI_in, iI_div, iI_mod, iI_shm, iI_and1, iI_and7, iI_and63, iI_shr3, iI_shr6, rd_I, ob, Option.some.injEq, exists_eq_left', exists_eq_left, true_and, and_true, fqI, fqJ, eq_self, true_or, or_true, bP_0, bP_0i, npP, bP_1i, bP_b, not_true_eq_false, not_false_eq_true, false_implies, true_implies, implies_true, Classical.not_not, and_self]
  intro g2 e2
  obtain ⟨f2, r2⟩ := wI (i := 11) (by omega) (by omega) (by omega) e2
  have H2 : LB g2 fr := LB.same f2.1 f2.2.2.1 f2.2.2.2.1 f2.aPe H1
  have R2 := (R.bI (fr := fr) (j := fr + 9) (by omega) hfr f1).bI (fr := fr) (j := fr) (by omega) hfr f2
  refine K g2 (CO.fin ((f1.bI (by omega)).trans (f2.bI (by omega))) R2 fun z => ?_)
  have he := he z
  obtain ⟨_, L, M, st, ft, tt, fb⟩ := C
  have row : ∀ j, (1 ≤ j ∧ j ≤ 20) ∧ j ≠ 9 → rd g2 (fr + j) = rd h (fr + j) := fun j hj => by rw [f2.row (by simp <;> omega), f1.row (by simp <;> omega)]
  have q9 : rd g2 (fr + 9) = updT (rd h (fr + 9)) (s 3) c := by rw [f2.row (by simp <;> omega), r1]
  have E0 : ∀ j : Int, j ≠ 11 → rd g2 fr j = rd h fr j := fun j hj => by rw [r2, updT_n hj, f1.row (by simp <;> omega)]
  have E10 : ∀ j, (j : Int) = j → rd g2 (fr + 10) j = rd h (fr + 10) j := fun j _ => by rw [row 10 (by omega)]
  have E16 : ∀ j, (j : Int) = j → rd g2 (fr + 16) j = rd h (fr + 16) j := fun j _ => by rw [row 16 (by omega)]
  have jow : ∀ j, j ≤ 20 → aJ g2 (fr + j) = aJ h (fr + j) := fun j _ => by rw [f2.2.2.2.2.2.1 _ (by simp), f1.2.2.2.2.2.1 _ (by simp)]
  have jow0 : ∀ j : Nat, j ≤ 20 → aJ g2 fr j = aJ h fr j := fun j _ => by rw [show fr = fr + 0 from rfl, jow 0 (by omega)]
  have es : ∀ i, (i ≠ 3 ∧ (i < 123 + 2 * s 3 ∨ 123 + 2 * s 3 + 1 < i)) → polU s x y i = s i := fun i hi => by unfold polU; rw [updT_n (by omega), updT_n (by omega), updT_n (by omega)]
  have s3 : polU s x y 3 = s 3 + 1 := by unfold polU; rw [updT_s]
  have sA : polU s x y (123 + 2 * s 3) = x := by unfold polU; rw [updT_n (by omega), updT_n (by omega), updT_s]
  have sB : polU s x y (123 + 2 * s 3 + 1) = y := by unfold polU; rw [updT_n (by omega), updT_s]
  exact ⟨H2, ⟨(by rw [E0 0 (by omega), es 0 (by omega)]; exact L.c0), (by rw [E0 1 (by omega), es 1 (by omega)]; exact L.c1), (by rw [E0 5 (by omega), es 2 (by omega)]; exact L.c5), (by rw [r2, updT_s, s3]), (by rw [E10 0 (by omega), es 4 (by omega)]; exact L.q0), (by rw [E16 0 (by omega), es 5 (by omega)]; exact L.w0), (fun x y x0 x1 y0 y1 => by rw [es 0 (by omega)] at x1; rw [es 1 (by omega)] at y1; rw [row 1 (by omega), es _ (by omega)]; exact L.gr x y x0 x1 y0 y1), (fun g x y g0 g1 x0 x1 y0 y1 => by rw [es 0 (by omega), es 1 (by omega), es (11 + 8 * y + x) (by omega), jow 2 (by omega)]; exact L.up g x y g0 g1 x0 x1 y0 y1), (fun i i0 i1 => by rw [row 3 (by omega), es _ (by omega)]; exact L.td i i0 i1), (fun r r0 r1 => by rw [es 2 (by omega)] at r1; rw [row 5 (by omega), es _ (by omega)]; exact L.wi r r0 r1), (fun r r0 r1 => by rw [es 2 (by omega)] at r1; rw [row 6 (by omega), es _ (by omega)]; exact L.hi r r0 r1), (fun r r0 r1 => by rw [es 2 (by omega)] at r1; rw [row 7 (by omega), es _ (by omega)]; exact L.dr r r0 r1), (fun k k0 k1 => by rw [s3] at k1; rw [q9]; by_cases ck : k = s 3; { rw [ck, updT_s, sA, sB]; exact he }; { rw [updT_n ck, es _ (by omega), es _ (by omega)]; exact L.po k k0 (by omega) }), (fun r r0 r1 => by rw [es 4 (by omega)] at r1; rw [row 11 (by omega), es _ (by omega)]; exact L.ro r r0 r1), (fun r r0 r1 => by rw [es 4 (by omega)] at r1; rw [row 12 (by omega), es _ (by omega)]; exact L.rp r r0 r1), (fun r r0 r1 => by rw [es 4 (by omega)] at r1; rw [row 13 (by omega), es _ (by omega)]; exact L.rq r r0 r1), (fun r r0 r1 => by rw [es 4 (by omega)] at r1; rw [row 14 (by omega), es _ (by omega)]; exact L.rh r r0 r1), (fun r r0 r1 => by rw [row 15 (by omega), es _ (by omega)]; exact L.mo r r0 r1), (fun r r0 r1 => by rw [es 5 (by omega)] at r1; rw [row 17 (by omega), es _ (by omega)]; exact L.wk r r0 r1), (fun r r0 r1 => by rw [es 5 (by omega)] at r1; rw [row 18 (by omega), es _ (by omega)]; exact L.wh r r0 r1), (fun r r0 r1 => by rw [es 5 (by omega)] at r1; rw [row 19 (by omega), es (175 + 5 * r) (by omega), es (175 + 5 * r + 3) (by omega), es (175 + 5 * r + 2) (by omega)]; exact L.wt r r0 r1), (fun r r0 r1 => by rw [es 5 (by omega)] at r1; rw [row 20 (by omega), es _ (by omega)]; exact L.ww r r0 r1), (fun x y x0 x1 y0 y1 => by rw [es 6 (by omega), es 7 (by omega), es 8 (by omega), es 9 (by omega), ← L.sq x y x0 x1 y0 y1, jow0 13 (by omega)])⟩, fun r r0 r1 => by rw [es 2 (by omega)] at r1; rw [row 4 (by omega)]; exact M r r0 r1, fun r r0 r1 => by rw [es 2 (by omega)] at r1; rw [row 8 (by omega), es _ (by omega), es _ (by omega)]; exact st r r0 r1, by rw [f2.aPe]; exact p1, by rw [f2.row (by simp <;> omega), f1.row (by simp <;> omega)]; exact tt, fb⟩
theorem c_pole (R : RD T n m h 2 2 3 0 fa p a) (C : CL h fr s N td) (B : BA s td) (K : ∀ h', CO T n m fr h h' (sPole T n m s N td a p) → postV h') : wp_X2_readPole h 2 postV := by
  unfold sPole at K
  have hfr := C.f5
  obtain ⟨bb0, bb1, bb2, bb3, bb4, bb5⟩ := B.bds
  have O := R.o
  have H := C.H
  have p12 := C.ft
  have w0 := C.L.c11
  unfold wp_X2_readPole
  simp (disch := omega) only [O, fd0, fd1, fd2, fd3, fd4, fd5, fd6, fd7, fd8, fd9, fd10, fd11, fd12, fd13, fd14, fd15, fd16, fd17, fd18, fd19, fd20, fd21, fd22, fd23, fd24, fd25, fd26, fd27, fd28, fd29, fd30, fd31, fd32, fd33, fd34, fd35, fd36, fd37, fd38, fd39, fd40, fd41, fd42, fd43, fd44, fd45, fd46, fd47, fd48, fd49, fd50, fd51, fd52, p12, LB.o0 H, w0, -Int.reduceToNat, -Int32.reduceToNatClampNeg, il0, il1, il2, il3, il4, il5, il6, il7, il8, il9, il10, il11, il12, il13, il14, il15, il16, il17, il18, il19, il20, il21, il22, il23, il24, il25, il26, il27, il28, il29, il30, il31, il32, il35, il36, il38, il40, il42, il43, il44, il45, il46, il47, il48, il49, il50, il51, il52, il57, il59, il60, il63, il64, il75, il80, il95, il96, il97, il98, il99, il100, il120, il122, il123, il127, il128, il135, il167, il175, il225, il249, il250, il255, il256, il360, il370, il384, il600, il700, il740, il900, il940, il1024, il1600, il4800, il64000, il125000, il262143, il1000000000, iI_toInt, iI_add, iI_sub, iI_mul, iI_neg, iI_lt, iI_le, iI_eq, iI_n, iI_in, iI_div, iI_mod, iI_shm, iI_and1, iI_and7, iI_and63, iI_shr3, iI_shr6, rd_I, ob, Option.some.injEq, exists_eq_left', exists_eq_left, true_and, and_true, fqI, fqJ, eq_self, true_or, or_true, bP_0, bP_0i, npP, bP_1i, bP_b, not_true_eq_false, not_false_eq_true, false_implies, true_implies, implies_true, Classical.not_not, and_self, cP, cP', ite_n]
  by_cases c3 : s 3 < 6
  · rw [ite_t c3] at K
    rw [ite_t c3]
    refine c_readCell R H p12 C.L.c0 C.L.c1 bb0 bb1 (by omega) fun g f1 fa1 p1 a1 c t Rg CR => ?_
    obtain ⟨x, y, q1, E1, hv, ok1⟩ := CR.st (ok := fun x y q1 q2 => iteP (∃ k, 0 ≤ k ∧ k < s 3 ∧ s (123 + 2 * k) = x ∧ s (123 + 2 * k + 1) = y) (bdR 3 (tkA T n m q1)) (okR (polU s x y) N td q2))
    rw [ite_t rfl] at E1
    rw [E1] at K
    have Cg := C.tf t
    have cb : 0 ≤ c ∧ c < 64 := by
      by_cases z : f1 = 0
      · rw [ite_t z] at hv
        have := ok1 z
        omega
      · rw [ite_f z] at hv; omega
    have cx : f1 = 0 → c = 8 * y + x := fun z => by rw [hv, ite_t z]
    have po : PoOk s := B.gs.2.2.1
    have sb : SBd s := B.gs.1.1
    have hit : f1 = 0 → (hitP s c (s 3) ↔ ∃ k, 0 ≤ k ∧ k < s 3 ∧ s (123 + 2 * k) = x ∧ s (123 + 2 * k + 1) = y) := fun z => by
      have hx := ok1 z
      have hcx := cx z
      constructor
      · rintro ⟨k, k0, k1, k2⟩
        have u := po k k0 k1
        have v1 := (sb (123 + 2 * k) (by omega) (by omega)).1
        have v2 := (sb (123 + 2 * k + 1) (by omega) (by omega)).1
        exact ⟨k, k0, k1, by omega, by omega⟩
      · rintro ⟨k, k0, k1, k2, k3⟩
        exact ⟨k, k0, k1, by rw [k2, k3, hcx]⟩
    have loop : ∀ (dd : Nat) (g2 : AH) (f2 fa2 i : Int), i + dd = s 3 → 0 ≤ i → tfF g g2 2 → RD T n m g2 2 2 3 f2 fa2 p1 a1 → (¬ hitP s c i → f2 = f1 ∧ fa2 = fa1) → (hitP s c i → FaR f1 fa1 a1 3 f2 fa2) → wl_X2_readPole_25 postV (dd + 1) g2 2 (iI c) (iI i) := by
      intro dd
      induction dd with
      | zero =>
        intro g2 f2 fa2 i hi i0 t2 R2 n1 n2
        have ei : i = s 3 := by omega
        subst ei
        refine c_poleEnd (x := x) (y := y) R2 (Cg.tf t2) B c3 cb (fun z => ?_) fun h' co => K h' (CO.from (t.b2.trans t2.b2) ?_)
        · by_cases hh : hitP s c (s 3)
          · have u := n2 hh
            rcases u with u | u <;> omega
          · exact cx (by rw [← (n1 hh).1]; exact z)
        · by_cases hh : hitP s c (s 3)
          · rw [it_a fun u => show iteP (∃ k, 0 ≤ k ∧ k < s 3 ∧ s (123 + 2 * k) = x ∧ s (123 + 2 * k + 1) = y) (bdR 3 (tkA T n m q1)) _ = iteP (hitP s c (s 3)) (bdR 3 a1) (bdR 0 0) by rw [ite_t ((hit u).mp hh), ite_t hh, (ok1 u).2.1], (n2 hh).st (by omega) hh]
            exact co
          · obtain ⟨u1, u2⟩ := n1 hh
            rw [it_a fun u => ite_f fun v => hh ((hit u).mpr v), ← u1, ← u2]
            exact co
      | succ dd ih =>
        intro g2 f2 fa2 i hi i0 t2 R2 n1 n2
        show wb_X2_readPole_25 (wl_X2_readPole_25 postV (dd + 1)) g2 2 (iI c) (iI i) postV
        have C2 := Cg.tf t2
        have O2 := R2.o
        have H2 := C2.H
        have p2 := C2.ft
        have v2 := C2.L.c11
        have poi := C2.L.po i i0 (by omega)
        have pb := po i i0 (by omega)
        have v1 := (sb (123 + 2 * i) (by omega) (by omega)).1
        have v3 := (sb (123 + 2 * i + 1) (by omega) (by omega)).1
        have hs : hitP s c (i + 1) ↔ hitP s c i ∨ 8 * s (123 + 2 * i + 1) + s (123 + 2 * i) = c := by
          constructor
          · rintro ⟨k, k0, k1, k2⟩
            by_cases ck : k = i
            · subst ck; exact Or.inr k2
            · exact Or.inl ⟨k, k0, by omega, k2⟩
          · rintro (⟨k, k0, k1, k2⟩ | u)
            · exact ⟨k, k0, by omega, k2⟩
            · exact ⟨i, i0, by omega, u⟩
        unfold wb_X2_readPole_25 wb_X2_readPole_54
        simp (disch := omega) only [O2, fd0, fd1, fd2, fd3, fd4, fd5, fd6, fd7, fd8, fd9, fd10, fd11, fd12, fd13, fd14, fd15, fd16, fd17, fd18, fd19, fd20, fd21, fd22, fd23, fd24, fd25, fd26, fd27, fd28, fd29, fd30, fd31, fd32, fd33, fd34, fd35, fd36, fd37, fd38, fd39, fd40, fd41, fd42, fd43, fd44, fd45, fd46, fd47, fd48, fd49, fd50, fd51, fd52, p2, LB.o0 H2, v2, LB.p12 H2, LB.o9 H2, LB.l9 H2, poi, -Int.reduceToNat, -Int32.reduceToNatClampNeg, il0, il1, il2, il3, il4, il5, il6, il7, il8, il9, il10, il11, il12, il13, il14, il15, il16, il17, il18, il19, il20, il21, il22, il23, il24, il25, il26, il27, il28, il29, il30, il31, il32, il35, il36, il38, il40, il42, il43, il44, il45, il46, il47, il48, il49, il50, il51, il52, il57, il59, il60, il63, il64, il75, il80, il95, il96, il97, il98, il99, il100, il120, il122, il123, il127, il128, il135, il167, il175, il225, il249, il250, il255, il256, il360, il370, il384, il600, il700, il740, il900, il940, il1024, il1600, il4800, il64000, il125000, il262143, il1000000000, iI_toInt, iI_add, iI_sub, iI_mul, iI_neg, iI_lt, iI_le, iI_eq, iI_n, iI_in, iI_div, iI_mod, iI_shm, iI_and1, iI_and7, iI_and63, iI_shr3, iI_shr6, rd_I, ob, Option.some.injEq, exists_eq_left', exists_eq_left, true_and, and_true, fqI, fqJ, eq_self, true_or, or_true, bP_0, bP_0i, npP, bP_1i, bP_b, not_true_eq_false, not_false_eq_true, false_implies, true_implies, implies_true, Classical.not_not, and_self, cP, cP', ite_n, ite_f]
        by_cases cc : 8 * s (123 + 2 * i + 1) + s (123 + 2 * i) = c
        · rw [ite_t cc]
          refine c_fail R2 (by omega) fun g3 f3 fa3 t3 R3 FR => ?_
          refine ih g3 f3 fa3 (i + 1) (by omega) (by omega) (t2.trans t3) R3 (fun z => absurd (hs.mpr (Or.inr cc)) z) (fun _ => ?_)
          by_cases hh : hitP s c i
          · have u := n2 hh
            rcases u with ⟨u1, u2, u3⟩ | ⟨u1, u2, u3⟩
            · rcases FR with ⟨w1, w2, w3⟩ | ⟨w1, w2, w3⟩
              · exact Or.inl ⟨u1, by omega, by omega⟩
              · omega
            · rcases FR with ⟨w1, w2, w3⟩ | ⟨w1, w2, w3⟩
              · exact Or.inr ⟨u1, by omega, by omega⟩
              · omega
          · obtain ⟨u1, u2⟩ := n1 hh
            rw [u1, u2] at FR
            exact FR
        · rw [ite_f cc]
          refine ih g2 f2 fa2 (i + 1) (by omega) (by omega) t2 R2 (fun z => n1 fun u => z (hs.mpr (Or.inl u))) (fun z => n2 ((hs.mp z).elim id fun u => absurd u cc))
    have ini := loop (s 3).toNat g f1 fa1 0 (by omega) (by omega) (tfF.refl _ _) Rg (fun _ => ⟨rfl, rfl⟩) (fun ⟨k, k0, k1, _⟩ => by omega)
    exact ⟨_, ini⟩
  · rw [ite_f c3] at K
    rw [ite_f c3]
    exact c_fail0 R (by omega) fun g t Rg => K g (CO.bd t.b2 (by omega) Rg)
theorem RD.bJ {j : Nat} (R : RD T n m h 2 2 3 f fa p a) (F : Fr [] [j] [] h h') : RD T n m h' 2 2 3 f fa p a := by
  obtain ⟨b1, b2, b3, b4⟩ := R.B
  have e2 : ∀ k, rd h' k = rd h k := fun k => F.row (by simp)
  obtain ⟨x1, x2, x3, x4⟩ := R.X
  exact ⟨F.gr.ob R.o, by rw [F.aPe]; exact R.pp, ⟨F.gr.ob x1, by rw [F.2.2.2.1]; exact x2, by rw [e2]; exact x3, x4⟩, ⟨by rw [F.aPe]; exact b1, F.gr.ob b2, by rw [F.2.2.2.1]; exact b3, fun i i0 i1 => by rw [e2]; exact b4 i i0 i1⟩, by rw [e2]; exact R.s2, by rw [e2]; exact R.s3, by rw [e2]; exact R.sf, by rw [e2]; exact R.sa, by rw [e2]; exact R.sp, by rw [e2]; exact R.ss, R.hp, R.ha, R.hn, R.hm, R.ht⟩
/-- the SQUARE is laid -/
theorem c_squ74 {hh : Int} (R : RD T n m h 2 2 3 f fa p a) (C : CL h fr s N td) (B : BA s td) (hw : 1 ≤ w ∧ w ≤ 8) (hh8 : 1 ≤ hh ∧ hh ≤ 8) (hc : 0 ≤ c ∧ c < 64) (he : f = 0 → c = 8 * y + x ∧ (0 ≤ x ∧ x + w ≤ 8) ∧ 0 ≤ y ∧ y + hh ≤ 8) (K : ∀ h', CO T n m fr h h' (iteP (f = 0) (okR (squU s x y w hh) N td p) (bdR f fa)) → postV h') : wb_X2_readSquare_74 h 2 (iI c) (iI w) (iI hh) postV := by
  have O := R.o
  have b := rd_bd h 2 10
  have sf := R.sf
  unfold wb_X2_readSquare_74
  by_cases cf : f = 0
  · have H := C.H
    have p12 := C.ft
    have hfr := C.f5
    obtain ⟨bb0, bb1, bb2, bb3, bb4, bb5⟩ := B.bds
    obtain ⟨ce, cx, cy, cy'⟩ := he cf
    simp (disch := omega) only [O, fd0, fd1, fd2, fd3, fd4, fd5, fd6, fd7, fd8, fd9, fd10, fd11, fd12, fd13, fd14, fd15, fd16, fd17, fd18, fd19, fd20, fd21, fd22, fd23, fd24, fd25, fd26, fd27, fd28, fd29, fd30, fd31, fd32, fd33, fd34, fd35, fd36, fd37, fd38, fd39, fd40, fd41, fd42, fd43, fd44, fd45, fd46, fd47, fd48, fd49, fd50, fd51, fd52, sf, cf, p12, LB.o0 H, c_blockOf, -Int.reduceToNat, -Int32.reduceToNatClampNeg, il0, il1, il2, il3, il4, il5, il6, il7, il8, il9, il10, il11, il12, il13, il14, il15, il16, il17, il18, il19, il20, il21, il22, il23, il24, il25, il26, il27, il28, il29, il30, il31, il32, il35, il36, il38, il40, il42, il43, il44, il45, il46, il47, il48, il49, il50, il51, il52, il57, il59, il60, il63, il64, il75, il80, il95, il96, il97, il98, il99, il100, il120, il122, il123, il127, il128, il135, il167, il175, il225, il249, il250, il255, il256, il360, il370, il384, il600, il700, il740, il900, il940, il1024, il1600, il4800, il64000, il125000, il262143, il1000000000, iI_toInt, iI_add, iI_sub, iI_mul, iI_neg, iI_lt, iI_le, iI_eq, iI_n, iI_in, iI_div, iI_mod, iI_shm, iI_and1, iI_and7, iI_and63, iI_shr3, iI_shr6, rd_I, ob, Option.some.injEq, exists_eq_left', exists_eq_left, true_and, and_true, fqI, fqJ, eq_self, true_or, or_true, bP_0, bP_0i, npP, bP_1i, bP_b, not_true_eq_false, not_false_eq_true, false_implies, true_implies, implies_true, Classical.not_not, and_self, cP, cP', ite_n, ite_t]
    intro g1 e1
    have f1 : Fr [] [fr] [] h g1 := e1 ▸ fr_hJ
    have H1 : LB g1 fr := LB.same f1.1 f1.2.2.1 f1.2.2.2.1 f1.aPe H
    have fb2 : Fr (2 :: blk fr) (blk fr) [] h g1 := f1.mono (by simp) (fun a ha => by rw [List.mem_singleton] at ha; rw [ha]; exact mem_blk.mpr (by omega)) (by simp)
    have rows : ∀ j, rd g1 j = rd h j := fun j => f1.row (by simp)
    have R1 : RD T n m g1 2 2 3 f fa p a := R.bJ f1
    refine K g1 (CO.fin fb2 R1 fun z => ?_)
    obtain ⟨_, L, M, st, ft, tt, fb⟩ := C
    have row : ∀ j, j ≤ 20 → rd g1 (fr + j) = rd h (fr + j) := fun j _ => rows _
    have E0 : ∀ j, (j : Int) = j → rd g1 fr j = rd h fr j := fun j _ => by rw [rows]
    have E10 : ∀ j, (j : Int) = j → rd g1 (fr + 10) j = rd h (fr + 10) j := fun j _ => by rw [rows]
    have E16 : ∀ j, (j : Int) = j → rd g1 (fr + 16) j = rd h (fr + 16) j := fun j _ => by rw [rows]
    have jow : ∀ j, 1 ≤ j → aJ g1 (fr + j) = aJ h (fr + j) := fun j _ => f1.2.2.2.2.2.1 _ (by simp <;> omega)
    have j13 : aJ g1 fr 13 = cvZ w hh c := by rw [e1, aJ_hJ, if_pos rfl]; rfl
    have es : ∀ i, (i < 6 ∨ 9 < i) → squU s x y w hh i = s i := fun i hi => by unfold squU; rw [updT_n (by omega), updT_n (by omega), updT_n (by omega), updT_n (by omega)]
    have s6 : squU s x y w hh 6 = x := by unfold squU; rw [updT_n (by omega), updT_n (by omega), updT_n (by omega), updT_s]
    have s7 : squU s x y w hh 7 = y := by unfold squU; rw [updT_n (by omega), updT_n (by omega), updT_s]
    have s8 : squU s x y w hh 8 = w := by unfold squU; rw [updT_n (by omega), updT_s]
    have s9 : squU s x y w hh 9 = hh := by unfold squU; rw [updT_s]
    exact ⟨H1, ⟨(by rw [E0 0 (by omega), es 0 (by omega)]; exact L.c0), (by rw [E0 1 (by omega), es 1 (by omega)]; exact L.c1), (by rw [E0 5 (by omega), es 2 (by omega)]; exact L.c5), (by rw [E0 11 (by omega), es 3 (by omega)]; exact L.c11), (by rw [E10 0 (by omega), es 4 (by omega)]; exact L.q0), (by rw [E16 0 (by omega), es 5 (by omega)]; exact L.w0), (fun x y x0 x1 y0 y1 => by rw [es 0 (by omega)] at x1; rw [es 1 (by omega)] at y1; rw [row 1 (by omega), es _ (by omega)]; exact L.gr x y x0 x1 y0 y1), (fun g x y g0 g1 x0 x1 y0 y1 => by rw [es 0 (by omega), es 1 (by omega), es (11 + 8 * y + x) (by omega), jow 2 (by omega)]; exact L.up g x y g0 g1 x0 x1 y0 y1), (fun i i0 i1 => by rw [row 3 (by omega), es _ (by omega)]; exact L.td i i0 i1), (fun r r0 r1 => by rw [es 2 (by omega)] at r1; rw [row 5 (by omega), es _ (by omega)]; exact L.wi r r0 r1), (fun r r0 r1 => by rw [es 2 (by omega)] at r1; rw [row 6 (by omega), es _ (by omega)]; exact L.hi r r0 r1), (fun r r0 r1 => by rw [es 2 (by omega)] at r1; rw [row 7 (by omega), es _ (by omega)]; exact L.dr r r0 r1), (fun r r0 r1 => by rw [es 3 (by omega)] at r1; rw [row 9 (by omega), es _ (by omega), es _ (by omega)]; exact L.po r r0 r1), (fun r r0 r1 => by rw [es 4 (by omega)] at r1; rw [row 11 (by omega), es _ (by omega)]; exact L.ro r r0 r1), (fun r r0 r1 => by rw [es 4 (by omega)] at r1; rw [row 12 (by omega), es _ (by omega)]; exact L.rp r r0 r1), (fun r r0 r1 => by rw [es 4 (by omega)] at r1; rw [row 13 (by omega), es _ (by omega)]; exact L.rq r r0 r1), (fun r r0 r1 => by rw [es 4 (by omega)] at r1; rw [row 14 (by omega), es _ (by omega)]; exact L.rh r r0 r1), (fun r r0 r1 => by rw [row 15 (by omega), es _ (by omega)]; exact L.mo r r0 r1), (fun r r0 r1 => by rw [es 5 (by omega)] at r1; rw [row 17 (by omega), es _ (by omega)]; exact L.wk r r0 r1), (fun r r0 r1 => by rw [es 5 (by omega)] at r1; rw [row 18 (by omega), es _ (by omega)]; exact L.wh r r0 r1), (fun r r0 r1 => by rw [es 5 (by omega)] at r1; rw [row 19 (by omega), es (175 + 5 * r) (by omega), es (175 + 5 * r + 3) (by omega), es (175 + 5 * r + 2) (by omega)]; exact L.wt r r0 r1), (fun r r0 r1 => by rw [es 5 (by omega)] at r1; rw [row 20 (by omega), es _ (by omega)]; exact L.ww r r0 r1), (fun X Y x0 x1 y0 y1 => by rw [s6, s7, s8, s9, j13, ce]; exact zb_cv (by omega) (by omega) (by omega) (by omega) (by omega) (by omega) (by omega) (by omega) x0 x1 y0 y1)⟩, fun r r0 r1 => by rw [es 2 (by omega)] at r1; rw [row 4 (by omega)]; exact M r r0 r1, fun r r0 r1 => by rw [es 2 (by omega)] at r1; rw [row 8 (by omega), es _ (by omega), es _ (by omega)]; exact st r r0 r1, by rw [f1.aPe]; exact p12, by rw [rows]; exact tt, fb⟩
  · simp (disch := omega) only [O, fd0, fd1, fd2, fd3, fd4, fd5, fd6, fd7, fd8, fd9, fd10, fd11, fd12, fd13, fd14, fd15, fd16, fd17, fd18, fd19, fd20, fd21, fd22, fd23, fd24, fd25, fd26, fd27, fd28, fd29, fd30, fd31, fd32, fd33, fd34, fd35, fd36, fd37, fd38, fd39, fd40, fd41, fd42, fd43, fd44, fd45, fd46, fd47, fd48, fd49, fd50, fd51, fd52, sf, -Int.reduceToNat, -Int32.reduceToNatClampNeg, il0, il1, il2, il3, il4, il5, il6, il7, il8, il9, il10, il11, il12, il13, il14, il15, il16, il17, il18, il19, il20, il21, il22, il23, il24, il25, il26, il27, il28, il29, il30, il31, il32, il35, il36, il38, il40, il42, il43, il44, il45, il46, il47, il48, il49, il50, il51, il52, il57, il59, il60, il63, il64, il75, il80, il95, il96, il97, il98, il99, il100, il120, il122, il123, il127, il128, il135, il167, il175, il225, il249, il250, il255, il256, il360, il370, il384, il600, il700, il740, il900, il940, il1024, il1600, il4800, il64000, il125000, il262143, il1000000000, iI_toInt, iI_add, iI_sub, iI_mul, iI_neg, iI_lt, iI_le, iI_eq, iI_n, iI_in, iI_div, iI_mod, iI_shm, iI_and1, iI_and7, iI_and63, iI_shr3, iI_shr6, rd_I, ob, Option.some.injEq, exists_eq_left', exists_eq_left, true_and, and_true, fqI, fqJ, eq_self, true_or, or_true, bP_0, bP_0i, npP, bP_1i, bP_b, not_true_eq_false, not_false_eq_true, false_implies, true_implies, implies_true, Classical.not_not, and_self, cP, cP', ite_n, ite_f]
    exact K h (CO.fin (tfF.refl _ _).b2 R fun z => absurd z cf)
theorem sq0 (C : CL h fr s N td) (B : BA s td) : aJ h fr 13 = 0 ↔ s 8 = 0 := by
  have sb : SBd s := B.gs.1.1
  have q := B.sq
  have v6 := (sb 6 (by omega) (by omega)).1
  have v7 := (sb 7 (by omega) (by omega)).1
  have v8 := (sb 8 (by omega) (by omega)).1
  have v9 := (sb 9 (by omega) (by omega)).1
  have s89 := B.s8
  unfold SqOk at q
  constructor
  · intro e
    refine Classical.byContradiction fun n8 => ?_
    have n9 : s 9 ≠ 0 := fun u => n8 (s89.mpr u)
    have u := (C.L.sq (s 6) (s 7) (by omega) (by omega) (by omega) (by omega)).mpr ⟨by omega, by omega, by omega, by omega⟩
    rw [e] at u
    exact zb_0 _ u
  · intro e
    refine zb_ext fun k k0 k1 => ⟨fun u => ?_, fun u => absurd u (zb_0 _)⟩
    have v := C.L.sq (k % 8) (k / 8) (by omega) (by omega) (by omega) (by omega)
    rw [show 8 * (k / 8) + k % 8 = k by omega] at v
    have := v.mp u
    omega
theorem c_squ17 (R : RD T n m h 2 2 3 f fa p a) (C : CL h fr s N td) (B : BA s td) (K : ∀ h', CO T n m fr h h' (iteP (f = 0) (ceS T n m (s 0) (s 1) p fun x y _ q2 => nuS T n m 1 8 q2 fun w q3 => nuS T n m 1 8 q3 fun hh q4 => iteP (x + w ≤ s 0 ∧ y + hh ≤ s 1) (okR (squU s x y w hh) N td q4) (bdR 2 (tkA T n m q3))) (bdR f fa)) → postV h') : wb_X2_readSquare_17 h 2 postV := by
  have hfr := C.f5
  obtain ⟨bb0, bb1, bb2, bb3, bb4, bb5⟩ := B.bds
  unfold wb_X2_readSquare_17
  refine ⟨R.o, c_readCell R C.H C.ft C.L.c0 C.L.c1 bb0 bb1 (by omega) fun g f1 fa1 p1 a1 c t Rg CR => ?_⟩
  obtain ⟨x, y, q1, E1, hv, ok1⟩ := CR.st (ok := fun x y _ q2 => nuS T n m 1 8 q2 fun w q3 => nuS T n m 1 8 q3 fun hh q4 => iteP (x + w ≤ s 0 ∧ y + hh ≤ s 1) (okR (squU s x y w hh) N td q4) (bdR 2 (tkA T n m q3)))
  rw [E1] at K
  have cb : 0 ≤ c ∧ c < 64 := by
    by_cases z : f1 = 0
    · rw [ite_t z] at hv
      have := ok1 z
      omega
    · rw [ite_f z] at hv; omega
  rw [show (1 : Int32) = iI 1 from rfl, show (8 : Int32) = iI 8 from rfl]
  refine ⟨Rg.o, c_readNumber Rg (by omega) (by omega) fun g2 f2 fa2 p2 a2 w t2 R2 NR => ?_⟩
  rw [NR.st] at K
  refine ⟨R2.o, c_readNumber R2 (by omega) (by omega) fun g3 f3 fa3 p3 a3 hh t3 R3 NR2 => ?_⟩
  rw [NR2.st] at K
  have C3 := ((C.tf t).tf t2).tf t3
  have T3 : Fr (2 :: blk fr) (blk fr) [] h g3 := t.b2.trans (t2.b2.trans t3.b2)
  have wr := NR.rng
  have hr := NR2.rng
  have O3 := R3.o
  have H3 := C3.H
  have p12 := C3.ft
  have e0 := C3.L.c0
  have e1 := C3.L.c1
  have cx : f3 = 0 → c = 8 * y + x ∧ (0 ≤ x ∧ x < s 0) ∧ 0 ≤ y ∧ y < s 1 := fun z => by
    have z1 := (NR.ok (NR2.ok z).1).1
    have u := ok1 z1
    rw [ite_t z1] at hv
    exact ⟨hv, u.2.2.1, u.2.2.2⟩
  have k74 : (c % 8 + w ≤ s 0 ∧ c / 8 + hh ≤ s 1) → wb_X2_readSquare_74 g3 2 (iI c) (iI w) (iI hh) postV := fun z => by
    refine c_squ74 (x := x) (y := y) R3 C3 B (by omega) (by omega) cb (fun u => ?_) fun h' co => K h' (CO.from T3 ?_)
    · have v := cx u
      exact ⟨v.1, by omega, by omega, by omega⟩
    · rw [it_a fun u => ite_t (by have v := cx u; omega)]
      exact co
  have k69 : ¬ (c % 8 + w ≤ s 0 ∧ c / 8 + hh ≤ s 1) → wb_X2_readSquare_69 g3 2 (iI c) (iI w) (iI hh) postV := fun z => by
    unfold wb_X2_readSquare_69
    rw [show (2 : Int32) = iI 2 from rfl]
    refine ⟨O3, c_fail R3 (by omega) fun g4 f4 fa4 t4 R4 FR => c_squ74 (x := x) (y := y) R4 (C3.tf t4) B (by omega) (by omega) cb (fun u => ?_) fun h' co => K h' (CO.from (T3.trans t4.b2) ?_)⟩
    · rcases FR with v | v <;> omega
    · have zz : f3 = 0 → ¬ (x + w ≤ s 0 ∧ y + hh ≤ s 1) := fun u => by have v := cx u; omega
      rw [it_a fun u => show iteP (x + w ≤ s 0 ∧ y + hh ≤ s 1) _ (bdR 2 (tkA T n m p2)) = iteP False (bdR 0 0) (bdR 2 a3) by rw [ite_f (zz u), ite_f id, (NR2.ok u).2.2.2.1], FR.sn (by omega) id]
      exact co
  simp (disch := omega) only [O3, fd0, fd1, fd2, fd3, fd4, fd5, fd6, fd7, fd8, fd9, fd10, fd11, fd12, fd13, fd14, fd15, fd16, fd17, fd18, fd19, fd20, fd21, fd22, fd23, fd24, fd25, fd26, fd27, fd28, fd29, fd30, fd31, fd32, fd33, fd34, fd35, fd36, fd37, fd38, fd39, fd40, fd41, fd42, fd43, fd44, fd45, fd46, fd47, fd48, fd49, fd50, fd51, fd52, p12, LB.o0 H3, e0, e1, -Int.reduceToNat, -Int32.reduceToNatClampNeg, il0, il1, il2, il3, il4, il5, il6, il7, il8, il9, il10, il11, il12, il13, il14, il15, il16, il17, il18, il19, il20, il21, il22, il23, il24, il25, il26, il27, il28, il29, il30, il31, il32, il35, il36, il38, il40, il42, il43, il44, il45, il46, il47, il48, il49, il50, il51, il52, il57, il59, il60, il63, il64, il75, il80, il95, il96, il97, il98, il99, il100, il120, il122, il123, il127, il128, il135, il167, il175, il225, il249, il250, il255, il256, il360, il370, il384, il600, il700, il740, il900, il940, il1024, il1600, il4800, il64000, il125000, il262143, il1000000000, iI_toInt, iI_add, iI_sub, iI_mul, iI_neg, iI_lt, iI_le, iI_eq, iI_n, iI_in, iI_div, iI_mod, iI_shm, iI_and1, iI_and7, iI_and63, iI_shr3, iI_shr6, rd_I, ob, Option.some.injEq, exists_eq_left', exists_eq_left, true_and, and_true, fqI, fqJ, eq_self, true_or, or_true, bP_0, bP_0i, npP, bP_1i, bP_b, not_true_eq_false, not_false_eq_true, false_implies, true_implies, implies_true, Classical.not_not, and_self, cP, cP', ite_n]
  by_cases z1 : s 0 < c % 8 + w
  · rw [ite_t z1]; exact k69 (by omega)
  rw [ite_f z1]
  by_cases z2 : c / 8 + hh ≤ s 1
  · rw [ite_t z2]; exact k74 (by omega)
  · rw [ite_f z2]; exact k69 (by omega)
theorem c_square (R : RD T n m h 2 2 3 0 fa p a) (C : CL h fr s N td) (B : BA s td) (K : ∀ h', CO T n m fr h h' (sSqua T n m s N td a p) → postV h') : wp_X2_readSquare h 2 postV := by
  unfold sSqua at K
  have O := R.o
  have H := C.H
  have p12 := C.ft
  have q0 := sq0 C B
  unfold wp_X2_readSquare
  simp (disch := omega) only [O, fd0, fd1, fd2, fd3, fd4, fd5, fd6, fd7, fd8, fd9, fd10, fd11, fd12, fd13, fd14, fd15, fd16, fd17, fd18, fd19, fd20, fd21, fd22, fd23, fd24, fd25, fd26, fd27, fd28, fd29, fd30, fd31, fd32, fd33, fd34, fd35, fd36, fd37, fd38, fd39, fd40, fd41, fd42, fd43, fd44, fd45, fd46, fd47, fd48, fd49, fd50, fd51, fd52, p12, LB.o0 H, q0, -Int.reduceToNat, -Int32.reduceToNatClampNeg, il0, il1, il2, il3, il4, il5, il6, il7, il8, il9, il10, il11, il12, il13, il14, il15, il16, il17, il18, il19, il20, il21, il22, il23, il24, il25, il26, il27, il28, il29, il30, il31, il32, il35, il36, il38, il40, il42, il43, il44, il45, il46, il47, il48, il49, il50, il51, il52, il57, il59, il60, il63, il64, il75, il80, il95, il96, il97, il98, il99, il100, il120, il122, il123, il127, il128, il135, il167, il175, il225, il249, il250, il255, il256, il360, il370, il384, il600, il700, il740, il900, il940, il1024, il1600, il4800, il64000, il125000, il262143, il1000000000, iI_toInt, iI_add, iI_sub, iI_mul, iI_neg, iI_lt, iI_le, iI_eq, iI_n, iI_in, iI_div, iI_mod, iI_shm, iI_and1, iI_and7, iI_and63, iI_shr3, iI_shr6, rd_I, lgc, z_bit, ob, Option.some.injEq, exists_eq_left', exists_eq_left, true_and, and_true, fqI, fqJ, eq_self, true_or, or_true, bP_0, bP_0i, npP, bP_1i, bP_b, not_true_eq_false, not_false_eq_true, false_implies, true_implies, implies_true, Classical.not_not, and_self, cP, cP', ite_n]
  by_cases z : s 8 = 0
  · rw [ite_t z] at K
    rw [ite_t z]
    refine c_squ17 R C B fun h' co => K h' ?_
    rw [ite_t rfl] at co
    exact co
  · rw [ite_f z] at K
    rw [ite_f z]
    refine c_fail0 R (by omega) fun g t Rg => c_squ17 Rg (C.tf t) B fun h' co => K h' (CO.from t.b2 ?_)
    rw [ite_f (by omega)] at co
    exact co
end POL
