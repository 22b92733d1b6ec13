/-! JUDGE in both; the calls so far, class against model -/
section MJUDGE
variable {h h1 h2 h' : AH} {i la fr qa ac tr t2 : Nat} {postV : AH → Prop} {post : AH → Int32 → Prop} {a b c d r x y n sp sq w hh u hr how who one k f q hw : Int} {s t z T : Int → Int} {J : JS}
theorem m_judgeCopy (M : MSh h) {X : Int32} (k : ∀ h', Fr [103] [] [] h h' → (∀ j, 0 ≤ j → j < 24 → rd h' 103 j = rd h 99 j) → post h' X) : ∃ n, wl_X12_judge_85 post n h 92 X (iI 0) := by
  refine lf_for (W := fun n (b : AH) i => wl_X12_judge_85 post n b 92 X (iI i)) (lo := 0) (hi := 24) (fun i b => Fr [103] [] [] h b ∧ (∀ j, 0 ≤ j → j < i → rd b 103 j = rd h 99 j)) (by omega) ?_ ?_ h ⟨(Fr.refl h).mono (by simp) (by simp) (by simp), fun j j1 j2 => by omega⟩
  · intro n b i i1 i2 hb kk
    obtain ⟨f, t1⟩ := hb
    have Mb := M.fr f
    show wb_X12_judge_85 (wl_X12_judge_85 post n) b 92 X (iI i) post
    unfold wb_X12_judge_85
    simp (disch := omega) only [MSh.o0 Mb, MSh.p1 Mb, MSh.o1 Mb, MSh.l1 Mb, MSh.p6 Mb, MSh.o2 Mb, MSh.l2 Mb, MSh.p7 Mb, MSh.o3 Mb, MSh.l3 Mb, MSh.p8 Mb, MSh.o4 Mb, MSh.l4 Mb, MSh.p9 Mb, MSh.o5 Mb, MSh.l5 Mb, MSh.p10 Mb, MSh.o6 Mb, MSh.l6 Mb, MSh.p24 Mb, MSh.o7 Mb, MSh.l7 Mb, MSh.p25 Mb, MSh.o8 Mb, MSh.l8 Mb, MSh.p26 Mb, MSh.o9 Mb, MSh.l9 Mb, MSh.p32 Mb, MSh.o10 Mb, MSh.l10 Mb, MSh.p33 Mb, MSh.o11 Mb, MSh.l11 Mb, MSh.p35 Mb, MSh.o12 Mb, MSh.l12 Mb, MSh.p36 Mb, MSh.o13 Mb, MSh.l13 Mb, MSh.p37 Mb, MSh.o14 Mb, MSh.l14 Mb, MSh.p38 Mb, MSh.o15 Mb, MSh.l15 Mb, MSh.p39 Mb, MSh.o16 Mb, MSh.l16 Mb, MSh.p42 Mb, MSh.o17 Mb, MSh.l17 Mb, MSh.p43 Mb, MSh.o18 Mb, MSh.l18 Mb, MSh.p44 Mb, MSh.o19 Mb, MSh.l19 Mb, MSh.p45 Mb, MSh.o20 Mb, MSh.l20 Mb, MSh.p46 Mb, MSh.o21 Mb, MSh.l21 Mb, MSh.p47 Mb, MSh.o22 Mb, MSh.l22 Mb, MSh.p50 Mb, MSh.o23 Mb, MSh.l23 Mb, MSh.p51 Mb, MSh.o24 Mb, MSh.l24 Mb, MSh.p52 Mb, MSh.o25 Mb, MSh.l25 Mb, -Int.reduceToNat, -Int32.reduceToNatClampNeg, il0, il1, il2, il3, il4, il5, il6, il7, il8, il9, il10, il11, il12, il13, il14, il15, il16, il17, il18, il19, il20, il21, il22, il23, il24, il25, il26, il27, il28, il29, il30, il31, il32, il35, il36, il38, il40, il42, il43, il44, il45, il46, il47, il48, il49, il50, il51, il52, il57, il59, il60, il63, il64, il75, il80, il95, il96, il97, il98, il99, il100, il120, il122, il123, il127, il128, il135, il167, il175, il225, il249, il250, il255, il256, il360, il370, il384, il600, il700, il740, il900, il940, il1024, il1600, il4800, il64000, il125000, il262143, il1000000000, iI_toInt, iI_add, iI_sub, iI_mul, iI_neg, iI_lt, iI_le, iI_eq, iI_n, iI_in, iI_div, iI_mod, iI_shm, iI_and1, iI_and7, iI_and63, iI_shr3, iI_shr6, rd_I, ob, Option.some.injEq, exists_eq_left', exists_eq_left, true_and, and_true, fqI, fqJ, eq_self, true_or, or_true, bP_0, bP_0i, npP, bP_1i, bP_b, not_true_eq_false, not_false_eq_true, false_implies, true_implies, implies_true, Classical.not_not, and_self, cP, cP', ite_n, ite_T, ite_F, ite_t, ite_f]
    intro h3 e3
    have q := rd_bd b 99 i
    obtain ⟨f3, r3⟩ := wI (by omega) q.1 q.2 e3
    refine kk h3 ⟨f.trans f3, fun j j1 j2 => ?_⟩
    rw [r3]
    by_cases c : j = i
    · subst c
      rw [updT_s, f.row (by decide)]
    · rw [updT_n c, t1 j j1 (by omega)]
  · intro n b hb
    show wb_X12_judge_85 (wl_X12_judge_85 post n) b 92 X (iI 24) post
    unfold wb_X12_judge_85
    simp (disch := omega) only [-Int.reduceToNat, -Int32.reduceToNatClampNeg, il0, il1, il2, il3, il4, il5, il6, il7, il8, il9, il10, il11, il12, il13, il14, il15, il16, il17, il18, il19, il20, il21, il22, il23, il24, il25, il26, il27, il28, il29, il30, il31, il32, il35, il36, il38, il40, il42, il43, il44, il45, il46, il47, il48, il49, il50, il51, il52, il57, il59, il60, il63, il64, il75, il80, il95, il96, il97, il98, il99, il100, il120, il122, il123, il127, il128, il135, il167, il175, il225, il249, il250, il255, il256, il360, il370, il384, il600, il700, il740, il900, il940, il1024, il1600, il4800, il64000, il125000, il262143, il1000000000, iI_toInt, iI_add, iI_sub, iI_mul, iI_neg, iI_lt, iI_le, iI_eq, iI_n, iI_in, iI_div, iI_mod, iI_shm, iI_and1, iI_and7, iI_and63, iI_shr3, iI_shr6, rd_I, ob, Option.some.injEq, exists_eq_left', exists_eq_left, true_and, and_true, fqI, fqJ, eq_self, true_or, or_true, bP_0, bP_0i, npP, bP_1i, bP_b, not_true_eq_false, not_false_eq_true, false_implies, true_implies, implies_true, Classical.not_not, and_self, cP, cP', ite_n, ite_T, ite_F, ite_t, ite_f]
    exact k b hb.1 hb.2
theorem mX_judge (M : MSh h) (Z : Z24 h) (hG : GA (rd h 94)) (hq1 : -2147483648 ≤ q) (hq2 : q < 2147483648)
    (k1 : ∀ h', (0 ≤ q ∧ q < 96) → Fr [92, 99, 100, 102, 103] [] [] h h' → (∀ j, j ∈ QW → j ≠ 34 → rd h' 92 j = rd h 92 j) → rd h' 92 34 = rd h 94 2 → Z24 h' → rd h' 102 0 = (runF (rd h 94) q (rd h 94 249).toNat 0 (J0 (rd h 94))).2.2.2 → rd h' 102 1 = (runF (rd h 94) q (rd h 94 249).toNat 0 (J0 (rd h 94))).2.2.1.1 → rd h' 102 2 = (runF (rd h 94) q (rd h 94 249).toNat 0 (J0 (rd h 94))).2.2.1.2.1 → rd h' 102 3 = (runF (rd h 94) q (rd h 94 249).toNat 0 (J0 (rd h 94))).2.2.1.2.2 → rd h' 102 4 = metV (rd h 94) (runF (rd h 94) q (rd h 94 249).toNat 0 (J0 (rd h 94))).2.1 → (∀ j, 0 ≤ j → j < 24 → rd h' 103 j = (runF (rd h 94) q (rd h 94 249).toNat 0 (J0 (rd h 94))).2.1 j) → post h' (iI (runF (rd h 94) q (rd h 94 249).toNat 0 (J0 (rd h 94))).1))
    (k0 : ∀ h', ¬ (0 ≤ q ∧ q < 96) → Qt h h' → post h' (iI (-2))) : wp_X12_judge h 92 (iI q) post := by
  have bd := hG.bd
  unfold wp_X12_judge
  refine ⟨M.o0, fun ha ea => ?_⟩
  obtain ⟨Ma, qa', fa, ra, -⟩ := m_thr0 M Z ea
  simp (disch := omega) only [-Int.reduceToNat, -Int32.reduceToNatClampNeg, il0, il1, il2, il3, il4, il5, il6, il7, il8, il9, il10, il11, il12, il13, il14, il15, il16, il17, il18, il19, il20, il21, il22, il23, il24, il25, il26, il27, il28, il29, il30, il31, il32, il35, il36, il38, il40, il42, il43, il44, il45, il46, il47, il48, il49, il50, il51, il52, il57, il59, il60, il63, il64, il75, il80, il95, il96, il97, il98, il99, il100, il120, il122, il123, il127, il128, il135, il167, il175, il225, il249, il250, il255, il256, il360, il370, il384, il600, il700, il740, il900, il940, il1024, il1600, il4800, il64000, il125000, il262143, il1000000000, iI_toInt, iI_add, iI_sub, iI_mul, iI_neg, iI_lt, iI_le, iI_eq, iI_n, iI_in, iI_div, iI_mod, iI_shm, iI_and1, iI_and7, iI_and63, iI_shr3, iI_shr6, rd_I, ob, Option.some.injEq, exists_eq_left', exists_eq_left, true_and, and_true, fqI, fqJ, eq_self, true_or, or_true, bP_0, bP_0i, npP, bP_1i, bP_b, not_true_eq_false, not_false_eq_true, false_implies, true_implies, implies_true, Classical.not_not, and_self, cP, cP', ite_n, m_isQuarter]
  by_cases cq : 0 ≤ q ∧ q < 96
  case neg => rw [ite_f cq]; exact k0 ha cq qa'
  rw [ite_t cq]
  have e94 : rd ha 94 = rd h 94 := fa.row (by decide)
  refine ⟨Ma.o0, m_run (b := -1) (hw := -1) Ma qa'.2.2 (by rw [e94]; exact hG) cq (by omega) (by omega) (fun p => by omega) fun hb qb Rb => ?_⟩
  rw [e94, rnM_off _ _ _ (Or.inl (by omega))] at Rb ⊢
  obtain ⟨je, je2, -, -⟩ := runF_e (q := q) hG (rd h 94 249).toNat 0 0 (J0 (rd h 94)) (J0_I hG) (by omega) (by omega) (by omega) (by omega)
  have kk1 := fun h' => k1 h' cq
  clear k1 k0
  generalize runF (rd h 94) q (rd h 94 249).toNat 0 (J0 (rd h 94)) = RR at *
  have Zb := Rb.zz je.2.2.2.1
  obtain ⟨Mb, b94, b99, b100, v1, v2, v3, v4⟩ := Rb
  obtain ⟨V, ⟨⟨x1, x2⟩, ⟨y1, y2⟩, ⟨u1, u2⟩, -⟩, w, z0, o0⟩ := je
  simp (disch := omega) only [MSh.o0 Mb, MSh.p1 Mb, MSh.o1 Mb, MSh.l1 Mb, MSh.p6 Mb, MSh.o2 Mb, MSh.l2 Mb, MSh.p7 Mb, MSh.o3 Mb, MSh.l3 Mb, MSh.p8 Mb, MSh.o4 Mb, MSh.l4 Mb, MSh.p9 Mb, MSh.o5 Mb, MSh.l5 Mb, MSh.p10 Mb, MSh.o6 Mb, MSh.l6 Mb, MSh.p24 Mb, MSh.o7 Mb, MSh.l7 Mb, MSh.p25 Mb, MSh.o8 Mb, MSh.l8 Mb, MSh.p26 Mb, MSh.o9 Mb, MSh.l9 Mb, MSh.p32 Mb, MSh.o10 Mb, MSh.l10 Mb, MSh.p33 Mb, MSh.o11 Mb, MSh.l11 Mb, MSh.p35 Mb, MSh.o12 Mb, MSh.l12 Mb, MSh.p36 Mb, MSh.o13 Mb, MSh.l13 Mb, MSh.p37 Mb, MSh.o14 Mb, MSh.l14 Mb, MSh.p38 Mb, MSh.o15 Mb, MSh.l15 Mb, MSh.p39 Mb, MSh.o16 Mb, MSh.l16 Mb, MSh.p42 Mb, MSh.o17 Mb, MSh.l17 Mb, MSh.p43 Mb, MSh.o18 Mb, MSh.l18 Mb, MSh.p44 Mb, MSh.o19 Mb, MSh.l19 Mb, MSh.p45 Mb, MSh.o20 Mb, MSh.l20 Mb, MSh.p46 Mb, MSh.o21 Mb, MSh.l21 Mb, MSh.p47 Mb, MSh.o22 Mb, MSh.l22 Mb, MSh.p50 Mb, MSh.o23 Mb, MSh.l23 Mb, MSh.p51 Mb, MSh.o24 Mb, MSh.l24 Mb, MSh.p52 Mb, MSh.o25 Mb, MSh.l25 Mb, fd0, fd1, fd2, fd3, fd4, fd5, fd6, fd7, fd8, fd9, fd10, fd11, fd12, fd13, fd14, fd15, fd16, fd17, fd18, fd19, fd20, fd21, fd22, fd23, fd24, fd25, fd26, fd27, fd28, fd29, fd30, fd31, fd32, fd33, fd34, fd35, fd36, fd37, fd38, fd39, fd40, fd41, fd42, fd43, fd44, fd45, fd46, fd47, fd48, fd49, fd50, fd51, fd52, v4, -Int.reduceToNat, -Int32.reduceToNatClampNeg, il0, il1, il2, il3, il4, il5, il6, il7, il8, il9, il10, il11, il12, il13, il14, il15, il16, il17, il18, il19, il20, il21, il22, il23, il24, il25, il26, il27, il28, il29, il30, il31, il32, il35, il36, il38, il40, il42, il43, il44, il45, il46, il47, il48, il49, il50, il51, il52, il57, il59, il60, il63, il64, il75, il80, il95, il96, il97, il98, il99, il100, il120, il122, il123, il127, il128, il135, il167, il175, il225, il249, il250, il255, il256, il360, il370, il384, il600, il700, il740, il900, il940, il1024, il1600, il4800, il64000, il125000, il262143, il1000000000, iI_toInt, iI_add, iI_sub, iI_mul, iI_neg, iI_lt, iI_le, iI_eq, iI_n, iI_in, iI_div, iI_mod, iI_shm, iI_and1, iI_and7, iI_and63, iI_shr3, iI_shr6, rd_I, ob, Option.some.injEq, exists_eq_left', exists_eq_left, true_and, and_true, fqI, fqJ, eq_self, true_or, or_true, bP_0, bP_0i, npP, bP_1i, bP_b, not_true_eq_false, not_false_eq_true, false_implies, true_implies, implies_true, Classical.not_not, and_self]
  intro hc ec
  obtain ⟨fc, rc⟩ := wI (i := 0) (by omega) (by omega) (by omega) ec
  have Mc := Mb.fr fc
  have c92 : rd hc 92 = rd hb 92 := fc.row (by decide)
  simp (disch := omega) only [MSh.o0 Mc, MSh.p1 Mc, MSh.o1 Mc, MSh.l1 Mc, MSh.p6 Mc, MSh.o2 Mc, MSh.l2 Mc, MSh.p7 Mc, MSh.o3 Mc, MSh.l3 Mc, MSh.p8 Mc, MSh.o4 Mc, MSh.l4 Mc, MSh.p9 Mc, MSh.o5 Mc, MSh.l5 Mc, MSh.p10 Mc, MSh.o6 Mc, MSh.l6 Mc, MSh.p24 Mc, MSh.o7 Mc, MSh.l7 Mc, MSh.p25 Mc, MSh.o8 Mc, MSh.l8 Mc, MSh.p26 Mc, MSh.o9 Mc, MSh.l9 Mc, MSh.p32 Mc, MSh.o10 Mc, MSh.l10 Mc, MSh.p33 Mc, MSh.o11 Mc, MSh.l11 Mc, MSh.p35 Mc, MSh.o12 Mc, MSh.l12 Mc, MSh.p36 Mc, MSh.o13 Mc, MSh.l13 Mc, MSh.p37 Mc, MSh.o14 Mc, MSh.l14 Mc, MSh.p38 Mc, MSh.o15 Mc, MSh.l15 Mc, MSh.p39 Mc, MSh.o16 Mc, MSh.l16 Mc, MSh.p42 Mc, MSh.o17 Mc, MSh.l17 Mc, MSh.p43 Mc, MSh.o18 Mc, MSh.l18 Mc, MSh.p44 Mc, MSh.o19 Mc, MSh.l19 Mc, MSh.p45 Mc, MSh.o20 Mc, MSh.l20 Mc, MSh.p46 Mc, MSh.o21 Mc, MSh.l21 Mc, MSh.p47 Mc, MSh.o22 Mc, MSh.l22 Mc, MSh.p50 Mc, MSh.o23 Mc, MSh.l23 Mc, MSh.p51 Mc, MSh.o24 Mc, MSh.l24 Mc, MSh.p52 Mc, MSh.o25 Mc, MSh.l25 Mc, fd0, fd1, fd2, fd3, fd4, fd5, fd6, fd7, fd8, fd9, fd10, fd11, fd12, fd13, fd14, fd15, fd16, fd17, fd18, fd19, fd20, fd21, fd22, fd23, fd24, fd25, fd26, fd27, fd28, fd29, fd30, fd31, fd32, fd33, fd34, fd35, fd36, fd37, fd38, fd39, fd40, fd41, fd42, fd43, fd44, fd45, fd46, fd47, fd48, fd49, fd50, fd51, fd52, c92, v1, -Int.reduceToNat, -Int32.reduceToNatClampNeg, il0, il1, il2, il3, il4, il5, il6, il7, il8, il9, il10, il11, il12, il13, il14, il15, il16, il17, il18, il19, il20, il21, il22, il23, il24, il25, il26, il27, il28, il29, il30, il31, il32, il35, il36, il38, il40, il42, il43, il44, il45, il46, il47, il48, il49, il50, il51, il52, il57, il59, il60, il63, il64, il75, il80, il95, il96, il97, il98, il99, il100, il120, il122, il123, il127, il128, il135, il167, il175, il225, il249, il250, il255, il256, il360, il370, il384, il600, il700, il740, il900, il940, il1024, il1600, il4800, il64000, il125000, il262143, il1000000000, iI_toInt, iI_add, iI_sub, iI_mul, iI_neg, iI_lt, iI_le, iI_eq, iI_n, iI_in, iI_div, iI_mod, iI_shm, iI_and1, iI_and7, iI_and63, iI_shr3, iI_shr6, rd_I, ob, Option.some.injEq, exists_eq_left', exists_eq_left, true_and, and_true, fqI, fqJ, eq_self, true_or, or_true, bP_0, bP_0i, npP, bP_1i, bP_b, not_true_eq_false, not_false_eq_true, false_implies, true_implies, implies_true, Classical.not_not, and_self]
  intro hd ed
  obtain ⟨fd, rd'⟩ := wI (i := 1) (by omega) (by omega) (by omega) ed
  have Md := Mc.fr fd
  have d92 : rd hd 92 = rd hb 92 := by rw [fd.row (by decide), c92]
  simp (disch := omega) only [MSh.o0 Md, MSh.p1 Md, MSh.o1 Md, MSh.l1 Md, MSh.p6 Md, MSh.o2 Md, MSh.l2 Md, MSh.p7 Md, MSh.o3 Md, MSh.l3 Md, MSh.p8 Md, MSh.o4 Md, MSh.l4 Md, MSh.p9 Md, MSh.o5 Md, MSh.l5 Md, MSh.p10 Md, MSh.o6 Md, MSh.l6 Md, MSh.p24 Md, MSh.o7 Md, MSh.l7 Md, MSh.p25 Md, MSh.o8 Md, MSh.l8 Md, MSh.p26 Md, MSh.o9 Md, MSh.l9 Md, MSh.p32 Md, MSh.o10 Md, MSh.l10 Md, MSh.p33 Md, MSh.o11 Md, MSh.l11 Md, MSh.p35 Md, MSh.o12 Md, MSh.l12 Md, MSh.p36 Md, MSh.o13 Md, MSh.l13 Md, MSh.p37 Md, MSh.o14 Md, MSh.l14 Md, MSh.p38 Md, MSh.o15 Md, MSh.l15 Md, MSh.p39 Md, MSh.o16 Md, MSh.l16 Md, MSh.p42 Md, MSh.o17 Md, MSh.l17 Md, MSh.p43 Md, MSh.o18 Md, MSh.l18 Md, MSh.p44 Md, MSh.o19 Md, MSh.l19 Md, MSh.p45 Md, MSh.o20 Md, MSh.l20 Md, MSh.p46 Md, MSh.o21 Md, MSh.l21 Md, MSh.p47 Md, MSh.o22 Md, MSh.l22 Md, MSh.p50 Md, MSh.o23 Md, MSh.l23 Md, MSh.p51 Md, MSh.o24 Md, MSh.l24 Md, MSh.p52 Md, MSh.o25 Md, MSh.l25 Md, fd0, fd1, fd2, fd3, fd4, fd5, fd6, fd7, fd8, fd9, fd10, fd11, fd12, fd13, fd14, fd15, fd16, fd17, fd18, fd19, fd20, fd21, fd22, fd23, fd24, fd25, fd26, fd27, fd28, fd29, fd30, fd31, fd32, fd33, fd34, fd35, fd36, fd37, fd38, fd39, fd40, fd41, fd42, fd43, fd44, fd45, fd46, fd47, fd48, fd49, fd50, fd51, fd52, d92, v2, -Int.reduceToNat, -Int32.reduceToNatClampNeg, il0, il1, il2, il3, il4, il5, il6, il7, il8, il9, il10, il11, il12, il13, il14, il15, il16, il17, il18, il19, il20, il21, il22, il23, il24, il25, il26, il27, il28, il29, il30, il31, il32, il35, il36, il38, il40, il42, il43, il44, il45, il46, il47, il48, il49, il50, il51, il52, il57, il59, il60, il63, il64, il75, il80, il95, il96, il97, il98, il99, il100, il120, il122, il123, il127, il128, il135, il167, il175, il225, il249, il250, il255, il256, il360, il370, il384, il600, il700, il740, il900, il940, il1024, il1600, il4800, il64000, il125000, il262143, il1000000000, iI_toInt, iI_add, iI_sub, iI_mul, iI_neg, iI_lt, iI_le, iI_eq, iI_n, iI_in, iI_div, iI_mod, iI_shm, iI_and1, iI_and7, iI_and63, iI_shr3, iI_shr6, rd_I, ob, Option.some.injEq, exists_eq_left', exists_eq_left, true_and, and_true, fqI, fqJ, eq_self, true_or, or_true, bP_0, bP_0i, npP, bP_1i, bP_b, not_true_eq_false, not_false_eq_true, false_implies, true_implies, implies_true, Classical.not_not, and_self]
  intro he ee
  obtain ⟨fe, re⟩ := wI (i := 2) (by omega) (by omega) (by omega) ee
  have Me := Md.fr fe
  have e92 : rd he 92 = rd hb 92 := by rw [fe.row (by decide), d92]
  simp (disch := omega) only [MSh.o0 Me, MSh.p1 Me, MSh.o1 Me, MSh.l1 Me, MSh.p6 Me, MSh.o2 Me, MSh.l2 Me, MSh.p7 Me, MSh.o3 Me, MSh.l3 Me, MSh.p8 Me, MSh.o4 Me, MSh.l4 Me, MSh.p9 Me, MSh.o5 Me, MSh.l5 Me, MSh.p10 Me, MSh.o6 Me, MSh.l6 Me, MSh.p24 Me, MSh.o7 Me, MSh.l7 Me, MSh.p25 Me, MSh.o8 Me, MSh.l8 Me, MSh.p26 Me, MSh.o9 Me, MSh.l9 Me, MSh.p32 Me, MSh.o10 Me, MSh.l10 Me, MSh.p33 Me, MSh.o11 Me, MSh.l11 Me, MSh.p35 Me, MSh.o12 Me, MSh.l12 Me, MSh.p36 Me, MSh.o13 Me, MSh.l13 Me, MSh.p37 Me, MSh.o14 Me, MSh.l14 Me, MSh.p38 Me, MSh.o15 Me, MSh.l15 Me, MSh.p39 Me, MSh.o16 Me, MSh.l16 Me, MSh.p42 Me, MSh.o17 Me, MSh.l17 Me, MSh.p43 Me, MSh.o18 Me, MSh.l18 Me, MSh.p44 Me, MSh.o19 Me, MSh.l19 Me, MSh.p45 Me, MSh.o20 Me, MSh.l20 Me, MSh.p46 Me, MSh.o21 Me, MSh.l21 Me, MSh.p47 Me, MSh.o22 Me, MSh.l22 Me, MSh.p50 Me, MSh.o23 Me, MSh.l23 Me, MSh.p51 Me, MSh.o24 Me, MSh.l24 Me, MSh.p52 Me, MSh.o25 Me, MSh.l25 Me, fd0, fd1, fd2, fd3, fd4, fd5, fd6, fd7, fd8, fd9, fd10, fd11, fd12, fd13, fd14, fd15, fd16, fd17, fd18, fd19, fd20, fd21, fd22, fd23, fd24, fd25, fd26, fd27, fd28, fd29, fd30, fd31, fd32, fd33, fd34, fd35, fd36, fd37, fd38, fd39, fd40, fd41, fd42, fd43, fd44, fd45, fd46, fd47, fd48, fd49, fd50, fd51, fd52, e92, v3, -Int.reduceToNat, -Int32.reduceToNatClampNeg, il0, il1, il2, il3, il4, il5, il6, il7, il8, il9, il10, il11, il12, il13, il14, il15, il16, il17, il18, il19, il20, il21, il22, il23, il24, il25, il26, il27, il28, il29, il30, il31, il32, il35, il36, il38, il40, il42, il43, il44, il45, il46, il47, il48, il49, il50, il51, il52, il57, il59, il60, il63, il64, il75, il80, il95, il96, il97, il98, il99, il100, il120, il122, il123, il127, il128, il135, il167, il175, il225, il249, il250, il255, il256, il360, il370, il384, il600, il700, il740, il900, il940, il1024, il1600, il4800, il64000, il125000, il262143, il1000000000, iI_toInt, iI_add, iI_sub, iI_mul, iI_neg, iI_lt, iI_le, iI_eq, iI_n, iI_in, iI_div, iI_mod, iI_shm, iI_and1, iI_and7, iI_and63, iI_shr3, iI_shr6, rd_I, ob, Option.some.injEq, exists_eq_left', exists_eq_left, true_and, and_true, fqI, fqJ, eq_self, true_or, or_true, bP_0, bP_0i, npP, bP_1i, bP_b, not_true_eq_false, not_false_eq_true, false_implies, true_implies, implies_true, Classical.not_not, and_self]
  intro hf ef
  obtain ⟨ff, rf⟩ := wI (i := 3) (by omega) (by omega) (by omega) ef
  have Mf := Me.fr ff
  have F1 : Fr [102] [] [] hb hf := fc.trans (fd.trans (fe.trans ff))
  have f94 : rd hf 94 = rd h 94 := by rw [F1.row (by decide), b94]
  have f99 : rd hf 99 = RR.2.1 := by rw [F1.row (by decide), b99]
  have f100 : rd hf 100 = zC (rd h 94) := by rw [F1.row (by decide), b100]
  have hA : ∀ o, 0 ≤ o → o < rd hf 94 2 → RBd (rd hf 99) (rd hf 100) o := fun o o1 o2 => by
    rw [f99, f100]
    rw [f94] at o2
    exact RBd.of (V o o1 o2).1.P1 (hG.z1 o1 o2)
  simp (disch := omega) only [MSh.o0 Mf, MSh.p1 Mf, MSh.o1 Mf, MSh.l1 Mf, MSh.p6 Mf, MSh.o2 Mf, MSh.l2 Mf, MSh.p7 Mf, MSh.o3 Mf, MSh.l3 Mf, MSh.p8 Mf, MSh.o4 Mf, MSh.l4 Mf, MSh.p9 Mf, MSh.o5 Mf, MSh.l5 Mf, MSh.p10 Mf, MSh.o6 Mf, MSh.l6 Mf, MSh.p24 Mf, MSh.o7 Mf, MSh.l7 Mf, MSh.p25 Mf, MSh.o8 Mf, MSh.l8 Mf, MSh.p26 Mf, MSh.o9 Mf, MSh.l9 Mf, MSh.p32 Mf, MSh.o10 Mf, MSh.l10 Mf, MSh.p33 Mf, MSh.o11 Mf, MSh.l11 Mf, MSh.p35 Mf, MSh.o12 Mf, MSh.l12 Mf, MSh.p36 Mf, MSh.o13 Mf, MSh.l13 Mf, MSh.p37 Mf, MSh.o14 Mf, MSh.l14 Mf, MSh.p38 Mf, MSh.o15 Mf, MSh.l15 Mf, MSh.p39 Mf, MSh.o16 Mf, MSh.l16 Mf, MSh.p42 Mf, MSh.o17 Mf, MSh.l17 Mf, MSh.p43 Mf, MSh.o18 Mf, MSh.l18 Mf, MSh.p44 Mf, MSh.o19 Mf, MSh.l19 Mf, MSh.p45 Mf, MSh.o20 Mf, MSh.l20 Mf, MSh.p46 Mf, MSh.o21 Mf, MSh.l21 Mf, MSh.p47 Mf, MSh.o22 Mf, MSh.l22 Mf, MSh.p50 Mf, MSh.o23 Mf, MSh.l23 Mf, MSh.p51 Mf, MSh.o24 Mf, MSh.l24 Mf, MSh.p52 Mf, MSh.o25 Mf, MSh.l25 Mf, -Int.reduceToNat, -Int32.reduceToNatClampNeg, il0, il1, il2, il3, il4, il5, il6, il7, il8, il9, il10, il11, il12, il13, il14, il15, il16, il17, il18, il19, il20, il21, il22, il23, il24, il25, il26, il27, il28, il29, il30, il31, il32, il35, il36, il38, il40, il42, il43, il44, il45, il46, il47, il48, il49, il50, il51, il52, il57, il59, il60, il63, il64, il75, il80, il95, il96, il97, il98, il99, il100, il120, il122, il123, il127, il128, il135, il167, il175, il225, il249, il250, il255, il256, il360, il370, il384, il600, il700, il740, il900, il940, il1024, il1600, il4800, il64000, il125000, il262143, il1000000000, iI_toInt, iI_add, iI_sub, iI_mul, iI_neg, iI_lt, iI_le, iI_eq, iI_n, iI_in, iI_div, iI_mod, iI_shm, iI_and1, iI_and7, iI_and63, iI_shr3, iI_shr6, rd_I, ob, Option.some.injEq, exists_eq_left', exists_eq_left, true_and, and_true, fqI, fqJ, eq_self, true_or, or_true, bP_0, bP_0i, npP, bP_1i, bP_b, not_true_eq_false, not_false_eq_true, false_implies, true_implies, implies_true, Classical.not_not, and_self]
  rw [m_met Mf (by rw [f94]; exact hG.sb) (by rw [f94]; omega) (by rw [f94]; exact hG.1.1.2.2.2.2.2.2.2.2) hA, f94, f99, f100, Int.sub_zero]
  have mb := met_bd hG RR.2.1
  show (ob hf 102 13) ∧ _
  refine ⟨Mf.o10, by rw [Mf.l10]; exact iI_in (a := 4) (by omega) (by omega) (by omega), fun hg eg => ?_⟩
  have eg : hg = hI hf 102 4 (iI (metV (rd h 94) RR.2.1)) := eg
  obtain ⟨fg, rg⟩ := wI (i := 4) (by omega) (by omega) (by omega) eg
  have Mg := Mf.fr fg
  have g94 : rd hg 94 = rd h 94 := by rw [fg.row (by decide), f94]
  simp (disch := omega) only [MSh.o0 Mg, MSh.p1 Mg, MSh.o1 Mg, MSh.l1 Mg, MSh.p6 Mg, MSh.o2 Mg, MSh.l2 Mg, MSh.p7 Mg, MSh.o3 Mg, MSh.l3 Mg, MSh.p8 Mg, MSh.o4 Mg, MSh.l4 Mg, MSh.p9 Mg, MSh.o5 Mg, MSh.l5 Mg, MSh.p10 Mg, MSh.o6 Mg, MSh.l6 Mg, MSh.p24 Mg, MSh.o7 Mg, MSh.l7 Mg, MSh.p25 Mg, MSh.o8 Mg, MSh.l8 Mg, MSh.p26 Mg, MSh.o9 Mg, MSh.l9 Mg, MSh.p32 Mg, MSh.o10 Mg, MSh.l10 Mg, MSh.p33 Mg, MSh.o11 Mg, MSh.l11 Mg, MSh.p35 Mg, MSh.o12 Mg, MSh.l12 Mg, MSh.p36 Mg, MSh.o13 Mg, MSh.l13 Mg, MSh.p37 Mg, MSh.o14 Mg, MSh.l14 Mg, MSh.p38 Mg, MSh.o15 Mg, MSh.l15 Mg, MSh.p39 Mg, MSh.o16 Mg, MSh.l16 Mg, MSh.p42 Mg, MSh.o17 Mg, MSh.l17 Mg, MSh.p43 Mg, MSh.o18 Mg, MSh.l18 Mg, MSh.p44 Mg, MSh.o19 Mg, MSh.l19 Mg, MSh.p45 Mg, MSh.o20 Mg, MSh.l20 Mg, MSh.p46 Mg, MSh.o21 Mg, MSh.l21 Mg, MSh.p47 Mg, MSh.o22 Mg, MSh.l22 Mg, MSh.p50 Mg, MSh.o23 Mg, MSh.l23 Mg, MSh.p51 Mg, MSh.o24 Mg, MSh.l24 Mg, MSh.p52 Mg, MSh.o25 Mg, MSh.l25 Mg, g94, -Int.reduceToNat, -Int32.reduceToNatClampNeg, il0, il1, il2, il3, il4, il5, il6, il7, il8, il9, il10, il11, il12, il13, il14, il15, il16, il17, il18, il19, il20, il21, il22, il23, il24, il25, il26, il27, il28, il29, il30, il31, il32, il35, il36, il38, il40, il42, il43, il44, il45, il46, il47, il48, il49, il50, il51, il52, il57, il59, il60, il63, il64, il75, il80, il95, il96, il97, il98, il99, il100, il120, il122, il123, il127, il128, il135, il167, il175, il225, il249, il250, il255, il256, il360, il370, il384, il600, il700, il740, il900, il940, il1024, il1600, il4800, il64000, il125000, il262143, il1000000000, iI_toInt, iI_add, iI_sub, iI_mul, iI_neg, iI_lt, iI_le, iI_eq, iI_n, iI_in, iI_div, iI_mod, iI_shm, iI_and1, iI_and7, iI_and63, iI_shr3, iI_shr6, rd_I, ob, Option.some.injEq, exists_eq_left', exists_eq_left, true_and, and_true, fqI, fqJ, eq_self, true_or, or_true, bP_0, bP_0i, npP, bP_1i, bP_b, not_true_eq_false, not_false_eq_true, false_implies, true_implies, implies_true, Classical.not_not, and_self]
  intro hh eh
  obtain ⟨fh, rh⟩ := wI (i := 34) (by omega) (by omega) (by omega) eh
  have Mh := Mg.fr fh
  refine m_judgeCopy Mh fun hi fi ei => ?_
  have h102 : ∀ j, rd hi 102 j = rd hg 102 j := fun j => by rw [fi.row (by decide), fh.row (by decide)]
  have g92 : rd hg 92 = rd hb 92 := by rw [fg.row (by decide), ff.row (by decide), e92]
  have F2 : Fr [92, 102, 103] [] [] hb hi := (F1.mono (by simp) (by simp) (by simp)).trans ((fg.mono (by simp) (by simp) (by simp)).trans ((fh.mono (by simp) (by simp) (by simp)).trans (fi.mono (by simp) (by simp) (by simp))))
  refine kk1 hi ((fa.mono (by simp) (by simp) (by simp)).trans ((qb.1.mono (by simp) (by simp) (by simp)).trans (F2.mono (by simp) (by simp) (by simp)))) (fun j hj hne => ?_) ?_ ?_ ?_ ?_ ?_ ?_ ?_ (fun j j1 j2 => ?_)
  · rw [fi.row (by decide), rh, updT_n hne, g92, qb.2 j (by revert j; decide), qa'.2.1 j hj]
  · rw [fi.row (by decide), rh, updT_s]
  · unfold Z24 at Zb ⊢
    rw [F2.row (by decide), F2.row (by decide)]
    exact Zb
  · rw [h102, rg, updT_n (by omega), rf, updT_n (by omega), re, updT_n (by omega), rd', updT_n (by omega), rc, updT_s]
  · rw [h102, rg, updT_n (by omega), rf, updT_n (by omega), re, updT_n (by omega), rd', updT_s]
  · rw [h102, rg, updT_n (by omega), rf, updT_n (by omega), re, updT_s]
  · rw [h102, rg, updT_n (by omega), rf, updT_s]
  · rw [h102, rg, updT_s]
  · rw [ei j j1 j2, fh.row (by decide), fg.row (by decide), f99]
end MJUDGE
/-- both answered alike -/
def Ag (K : AH → Prop) (v1 : Int32) : AH → Int32 → Prop := fun h2 v2 => (v1 = v2 → K h2) ∧ (¬ v1 = v2 → (0 : Int32) = 1)
theorem Ag.same {K : AH → Prop} {v : Int32} {h : AH} (k : K h) : Ag K v h v := ⟨fun _ => k, fun q => absurd rfl q⟩
section XS
variable {h h1 h2 h' : AH} {i la fr qa ac tr t2 : Nat} {K : AH → Prop} {a b c d r x y n sp sq w hh u hr how who one k f q hw e : Int} {s t z T : Int → Int} {J : JS}
theorem Inv.rt (I : Inv h i la fr qa ac) : RtI i h := ⟨la, fr, qa, ac, I⟩
theorem x_judge (I : Inv h i la fr qa ac) (h3 : -2147483648 ≤ q) (h4 : q < 2147483648) (hK : ∀ h2, RtI (i + 1) h2 → K h2) : wp_X11_judge h 0 (iI q) (fun h1 v1 => ob h1 92 11 ∧ wp_X12_judge h1 92 (iI q) (Ag K v1)) := by
  have hG := I.ga
  have bd := hG.bd
  refine cX_judge I h3 h4 (fun h1 cq g eN eS R e11 e12 e13 e0 => ?_) (fun cq => ?_)
  · have lt := fun (a : Nat) (ha : a ≤ 118) => I.lt ha
    have r94 : rd h1 94 = rd h 94 := g.row (lt 94 (by omega)) (by decide)
    have M1 := I.m.gr g
    have Z1' : Z24 h1 := by
      have z := I.z
      unfold Z24 at z ⊢
      rw [g.row (lt 99 (by omega)) (by decide), g.row (lt 100 (by omega)) (by decide)]
      exact z
    refine ⟨M1.o0, mX_judge M1 Z1' (by rw [r94]; exact hG) h3 h4 (fun h2 _ f2 m2 e34 z2 j0 j1 j2 j3 j4 jt => ?_) (fun h2 c => absurd cq c)⟩
    rw [r94] at e34 j0 j1 j2 j3 j4 jt ⊢
    refine Ag.same (hK _ ?_)
    obtain ⟨je, -, -, -⟩ := runF_e (q := q) hG (rd h 94 249).toNat 0 0 (J0 (rd h 94)) (J0_I hG) (by omega) (by omega) (by omega) (by omega)
    generalize runF (rd h 94) q (rd h 94 249).toNat 0 (J0 (rd h 94)) = RR at *
    have G : Gr [0, 62, 64, 92, 99, 100, 102, 103] [65] [(63, 0)] h h2 := (g.mono (by simp) (by simp) (by simp) (by simp [DynP])).trans (f2.gr.mono (by simp) (by simp) (by simp) (by simp [DynP]))
    have hl := I.hl
    have I0 := I
    obtain ⟨c1, c2, c3, c4, c5, c6, c7, c8, c9, c10, c11, c12, c13, c14, c15, c16, c17, c18⟩ := I
    have s94 : rd h2 94 = rd h 94 := by rw [f2.row (by decide), r94]
    have j97 : aJ h2 97 = aJ h 97 := G.jow (lt 97 (by omega)) (by decide)
    have m0 : ∀ j, j ∈ QW → j ≠ 34 → rd h2 92 j = rd h 92 j := fun j hj hn => by rw [m2 j hj hn, g.row (lt 92 (by omega)) (by decide)]
    have z0 : ∀ j, j < 11 → rd h2 0 j = rd h 0 j := fun j hj => by rw [f2.row (by decide), e0 j hj]
    obtain ⟨a1, a2, a3, a4, a5, a6⟩ := R
    have r62 : rd h2 62 = rd h1 62 := f2.row (by decide)
    have r0 : rd h2 0 = rd h1 0 := f2.row (by decide)
    have iJ : IvJ h2 := by
      refine Or.inr ⟨by rw [r0, e11], by rw [e34]; omega, by rw [r0, e12, e34], by rw [r62, j0, a3], by rw [r62, j1, a2], by rw [r62, j2, a4], by rw [r62, j3, a5], by rw [r0, e13, j4], fun r r1 r2 => ?_⟩
      rw [e34] at r2
      have sp := (je.1 r r1 r2).1
      have t0 := jt (3 * r) (by omega) (by omega)
      have t1 := jt (3 * r + 1) (by omega) (by omega)
      have t2 := jt (3 * r + 2) (by omega) (by omega)
      obtain ⟨s1, s2, s3, -⟩ := sp
      refine ⟨?_, ?_⟩
      · have := a6.2.2.1 r r1 r2
        rw [show rd h2 64 = rd h1 64 from f2.row (by decide)]
        have : rd h1 64 r = enc RR.2.1 r := this
        rw [this]
        unfold enc
        rw [t0, t1, t2]
      · unfold SpB
        rw [t0, t1, t2]
        exact ⟨s1, s2, s3⟩
    refine ⟨la, fr, qa, ac, I0.step G hl ((G.dyn (lt 2 (by omega)) (by decide)).trans c6) ?_ (by rw [s94]; exact c9) z2 (c11.gr (z0 _ (by omega)) (m0 _ (by decide) (by decide)) ?_ ?_) (c12.gr (z0 _ (by omega)) (m0 _ (by decide) (by decide))) iJ (c14.gr G c1 (by decide) (by decide) ?_ (m0 _ (by decide) (by decide)) ?_ ?_) (c15.gr (m0 _ (by decide) (by decide)) (m0 _ (by decide) (by decide)) ?_ ?_ ?_ ?_) (c16.gr G c1 (by decide) (by decide) ?_ ?_ ?_ ?_ ⟨Or.inl rfl, Or.inl rfl⟩) (c17.gr ?_ ?_ ?_) (c18.same c14 G (by rw [f2.1, eN]) (by rw [f2.2.1, eS]))⟩
    · rw [s94, j97]
      exact c8.gr G (by omega) (Or.inl rfl) (by decide) (by decide) (fun j hj => by simp; omega) (fun j hj => by simp; omega) (by decide) (by decide) (by decide) (by decide) (by decide)
    all_goals first | (rw [G.row (lt _ (by decide)) (by decide)]; done) | exact G.row (lt _ (by decide)) (by decide) | exact G.jow (lt _ (by decide)) (by decide) | skip
    · have qd := c14.2.2.2.2.2.2.2.2.2
      simp
      omega
    · refine ⟨fun a ha => ?_, fun a ha => ?_⟩
      · simp at ha; omega
      · simp at ha; omega
  · refine ⟨I.m.o0, mX_judge I.m I.z hG h3 h4 (fun h2 c => absurd c cq) (fun h2 _ q2 => Ag.same (hK _ (I.qt q2 (Nat.le_succ _)).rt))⟩
theorem x_water (I : Inv h i la fr qa ac) (p0 : -2147483648 ≤ x) (p0' : x < 2147483648) (p1 : -2147483648 ≤ y) (p1' : y < 2147483648) (p2 : -2147483648 ≤ hr) (p2' : hr < 2147483648) (hK : ∀ h2, RtI (i + 1) h2 → K h2) : wp_X11_water h 0 (iI x) (iI y) (iI hr) (fun h1 v1 => ob h1 92 11 ∧ wp_X12_water h1 92 (iI x) (iI y) (iI hr) (Ag K v1)) :=
  cX_water I p0 p0' p1 p1' p2 p2' ⟨I.m.o0, mX_water I p0 p0' p1 p1' p2 p2' fun h' q' => Ag.same (hK _ (I.qt q' (Nat.le_succ _)).rt)⟩
theorem x_gap (I : Inv h i la fr qa ac) (p0 : -2147483648 ≤ a) (p0' : a < 2147483648) (p1 : -2147483648 ≤ b) (p1' : b < 2147483648) (hK : ∀ h2, RtI (i + 1) h2 → K h2) : wp_X11_gap h 0 (iI a) (iI b) (fun h1 v1 => ob h1 92 11 ∧ wp_X12_gap h1 92 (iI a) (iI b) (Ag K v1)) :=
  cX_gap I p0 p0' p1 p1' ⟨I.m.o0, mX_gap I p0 p0' p1 p1' fun h' q' => Ag.same (hK _ (I.qt q' (Nat.le_succ _)).rt)⟩
theorem x_floats (I : Inv h i la fr qa ac) (p0 : -2147483648 ≤ r) (p0' : r < 2147483648) (hK : ∀ h2, RtI (i + 1) h2 → K h2) : wp_X11_floats h 0 (iI r) (fun h1 v1 => ob h1 92 11 ∧ wp_X12_floats h1 92 (iI r) (Ag K v1)) :=
  cX_floats I p0 p0' ⟨I.m.o0, mX_floats I p0 p0' fun h' q' => Ag.same (hK _ (I.qt q' (Nat.le_succ _)).rt)⟩
theorem x_at (I : Inv h i la fr qa ac) (p0 : -2147483648 ≤ x) (p0' : x < 2147483648) (p1 : -2147483648 ≤ y) (p1' : y < 2147483648) (hK : ∀ h2, RtI (i + 1) h2 → K h2) : wp_X11_at h 0 (iI x) (iI y) (fun h1 v1 => ob h1 92 11 ∧ wp_X12_at h1 92 (iI x) (iI y) (Ag K v1)) :=
  cX_at I p0 p0' p1 p1' ⟨I.m.o0, mX_at I p0 p0' p1 p1' fun h' q' => Ag.same (hK _ (I.qt q' (Nat.le_succ _)).rt)⟩
theorem x_aground (I : Inv h i la fr qa ac) (p0 : -2147483648 ≤ hr) (p0' : hr < 2147483648) (hK : ∀ h2, RtI (i + 1) h2 → K h2) : wp_X11_aground h 0 (iI hr) (fun h1 v1 => ob h1 92 11 ∧ wp_X12_aground h1 92 (iI hr) (Ag K v1)) :=
  cX_aground I p0 p0' ⟨I.m.o0, mX_aground I p0 p0' fun h' q' => Ag.same (hK _ (I.qt q' (Nat.le_succ _)).rt)⟩
theorem x_breaks (I : Inv h i la fr qa ac) (p0 : -2147483648 ≤ hr) (p0' : hr < 2147483648) (hK : ∀ h2, RtI (i + 1) h2 → K h2) : wp_X11_breaks h 0 (iI hr) (fun h1 v1 => ob h1 92 11 ∧ wp_X12_breaks h1 92 (iI hr) (Ag K v1)) :=
  cX_breaks I p0 p0' ⟨I.m.o0, mX_breaks I p0 p0' fun h' q' => Ag.same (hK _ (I.qt q' (Nat.le_succ _)).rt)⟩
theorem x_wants (I : Inv h i la fr qa ac) (p0 : -2147483648 ≤ w) (p0' : w < 2147483648) (hK : ∀ h2, RtI (i + 1) h2 → K h2) : wp_X11_wants h 0 (iI w) (fun h1 v1 => ob h1 92 11 ∧ wp_X12_wants h1 92 (iI w) (Ag K v1)) :=
  cX_wants I p0 p0' ⟨I.m.o0, mX_wants I p0 p0' fun h' q' => Ag.same (hK _ (I.qt q' (Nat.le_succ _)).rt)⟩
theorem x_could (I : Inv h i la fr qa ac) (p0 : -2147483648 ≤ r) (p0' : r < 2147483648) (p1 : -2147483648 ≤ x) (p1' : x < 2147483648) (p2 : -2147483648 ≤ y) (p2' : y < 2147483648) (p3 : -2147483648 ≤ u) (p3' : u < 2147483648) (hK : ∀ h2, RtI (i + 1) h2 → K h2) : wp_X11_could h 0 (iI r) (iI x) (iI y) (iI u) (fun h1 v1 => ob h1 92 11 ∧ wp_X12_could h1 92 (iI r) (iI x) (iI y) (iI u) (Ag K v1)) :=
  cX_could I p0 p0' p1 p1' p2 p2' p3 p3' ⟨I.m.o0, mX_could I p0 p0' p1 p1' p2 p2' p3 p3' fun h' q' => Ag.same (hK _ (I.qt q' (Nat.le_succ _)).rt)⟩
theorem x_storm (I : Inv h i la fr qa ac) (p0 : -2147483648 ≤ f) (p0' : f < 2147483648) (hK : ∀ h2, RtI (i + 1) h2 → K h2) : wp_X11_storm h 0 (iI f) (fun h1 v1 => ob h1 92 11 ∧ wp_X12_storm h1 92 (iI f) (Ag K v1)) :=
  cX_storm I p0 p0' ⟨I.m.o0, mX_storm I p0 p0' fun h' q' => Ag.same (hK _ (I.qt q' (Nat.le_succ _)).rt)⟩
theorem x_cut (I : Inv h i la fr qa ac) (p0 : -2147483648 ≤ r) (p0' : r < 2147483648) (p1 : -2147483648 ≤ f) (p1' : f < 2147483648) (p2 : -2147483648 ≤ w) (p2' : w < 2147483648) (hK : ∀ h2, RtI (i + 1) h2 → K h2) : wp_X11_cut h 0 (iI r) (iI f) (iI w) (fun h1 v1 => ob h1 92 11 ∧ wp_X12_cut h1 92 (iI r) (iI f) (iI w) (Ag K v1)) :=
  cX_cut I p0 p0' p1 p1' p2 p2' ⟨I.m.o0, mX_cut I p0 p0' p1 p1' p2 p2' fun h' q' => Ag.same (hK _ (I.qt q' (Nat.le_succ _)).rt)⟩
theorem x_found (I : Inv h i la fr qa ac) (p0 : -2147483648 ≤ x) (p0' : x < 2147483648) (hK : ∀ h2, RtI (i + 1) h2 → K h2) : wp_X11_found h 0 (iI x) (fun h1 v1 => ob h1 92 11 ∧ wp_X12_found h1 92 (iI x) (Ag K v1)) :=
  cX_found I p0 p0' ⟨I.m.o0, mX_found I p0 p0' fun h' q' => Ag.same (hK _ (I.qt q' (Nat.le_succ _)).rt)⟩
theorem x_allAt (I : Inv h i la fr qa ac) (p0 : -2147483648 ≤ r) (p0' : r < 2147483648) (p1 : -2147483648 ≤ w) (p1' : w < 2147483648) (hK : ∀ h2, RtI (i + 1) h2 → K h2) : wp_X11_allAt h 0 (iI r) (iI w) (fun h1 v1 => ob h1 92 11 ∧ wp_X12_allAt h1 92 (iI r) (iI w) (Ag K v1)) :=
  cX_allAt I p0 p0' p1 p1' ⟨I.m.o0, mX_allAt I p0 p0' p1 p1' fun h' q' => Ag.same (hK _ (I.qt q' (Nat.le_succ _)).rt)⟩
theorem x_judged (I : Inv h i la fr qa ac) (p0 : -2147483648 ≤ w) (p0' : w < 2147483648) (hK : ∀ h2, RtI (i + 1) h2 → K h2) : wp_X11_judged h 0 (iI w) (fun h1 v1 => ob h1 92 11 ∧ wp_X12_judged h1 92 (iI w) (Ag K v1)) :=
  cX_judged I p0 p0' ⟨I.m.o0, mX_judged I p0 p0' fun h' q' => Ag.same (hK _ (I.qt q' (Nat.le_succ _)).rt)⟩
theorem x_judgedAt (I : Inv h i la fr qa ac) (p0 : -2147483648 ≤ r) (p0' : r < 2147483648) (p1 : -2147483648 ≤ w) (p1' : w < 2147483648) (hK : ∀ h2, RtI (i + 1) h2 → K h2) : wp_X11_judgedAt h 0 (iI r) (iI w) (fun h1 v1 => ob h1 92 11 ∧ wp_X12_judgedAt h1 92 (iI r) (iI w) (Ag K v1)) :=
  cX_judgedAt I p0 p0' p1 p1' ⟨I.m.o0, mX_judgedAt I p0 p0' p1 p1' fun h' q' => Ag.same (hK _ (I.qt q' (Nat.le_succ _)).rt)⟩
theorem x_count (I : Inv h i la fr qa ac) (p0 : -2147483648 ≤ w) (p0' : w < 2147483648) (hK : ∀ h2, RtI (i + 1) h2 → K h2) : wp_X11_count h 0 (iI w) (fun h1 v1 => ob h1 92 11 ∧ wp_X12_count h1 92 (iI w) (Ag K v1)) :=
  cX_count I p0 p0' ⟨I.m.o0, mX_count I p0 p0' fun h' q' => Ag.same (hK _ (I.qt q' (Nat.le_succ _)).rt)⟩
theorem x_fault (I : Inv h i la fr qa ac) (hK : ∀ h2, RtI (i + 1) h2 → K h2) : wp_X11_fault h 0 (fun h1 v1 => ob h1 92 11 ∧ wp_X12_fault h1 92 (Ag K v1)) :=
  cX_fault I ⟨I.m.o0, mX_fault I fun h' q' => Ag.same (hK _ (I.qt q' (Nat.le_succ _)).rt)⟩
theorem x_left (I : Inv h i la fr qa ac) (hK : ∀ h2, RtI (i + 1) h2 → K h2) : wp_X11_left h 0 (fun h1 v1 => ob h1 92 11 ∧ wp_X12_left h1 92 (Ag K v1)) :=
  cX_left I ⟨I.m.o0, mX_left I fun h' q' => Ag.same (hK _ (I.qt q' (Nat.le_succ _)).rt)⟩
theorem x_tooMany (I : Inv h i la fr qa ac) (p0 : -2147483648 ≤ q) (p0' : q < 2147483648) (hK : ∀ h2, RtI (i + 1) h2 → K h2) : wp_X11_tooMany h 0 (iI q) (fun h1 v1 => ob h1 92 11 ∧ wp_X12_tooMany h1 92 (iI q) (Ag K v1)) :=
  cX_tooMany I p0 p0' fun h1 I1 e1 => ⟨I1.m.o0, mX_tooMany I1 p0 p0' fun h' q' => by
    rw [e1]
    exact Ag.same (hK _ (I1.qt q' (Nat.le_succ _)).rt)⟩
theorem x_instead (I : Inv h i la fr qa ac) (p0 : -2147483648 ≤ q) (p0' : q < 2147483648) (hK : ∀ h2, RtI (i + 1) h2 → K h2) : wp_X11_instead h 0 (iI q) (fun h1 v1 => ob h1 92 11 ∧ wp_X12_instead h1 92 (iI q) (Ag K v1)) :=
  cX_instead I p0 p0' fun h1 I1 e1 => ⟨I1.m.o0, mX_instead I1 p0 p0' fun h' q' => by
    rw [e1]
    exact Ag.same (hK _ (I1.qt q' (Nat.le_succ _)).rt)⟩
theorem x_move (I : Inv h i la fr qa ac) (p0 : -2147483648 ≤ r) (p0' : r < 2147483648) (p1 : -2147483648 ≤ how) (p1' : how < 2147483648) (p2 : -2147483648 ≤ hr) (p2' : hr < 2147483648) (hK : ∀ h2, RtI (i + 1) h2 → K h2) : wp_X11_move h 0 (iI r) (iI how) (iI hr) (fun h1 v1 => ob h1 92 11 ∧ wp_X12_move h1 92 (iI r) (iI how) (iI hr) (Ag K v1)) := by
  have hG := I.ga
  have bd := hG.bd
  refine cX_move I p0 p0' p1 p1' p2 p2' (fun h1 c0 cr f1 T1 => ?_) (fun c0 => ?_)
  · have e94 : rd h1 94 = rd h 94 := f1.row (by decide)
    have z1 : Z24 h1 := by
      have z := I.z
      unfold Z24 at z ⊢
      rw [f1.row (by decide), f1.row (by decide)]
      exact z
    have M1 := I.m.fr f1
    refine ⟨M1.o0, mX_move M1 z1 (by rw [e94]; exact hG) p0 p0' p1 p1' p2 p2' (fun h2 _ f2 m2 z2 es et => ?_) (fun h2 c => absurd (by rw [e94]; exact c0) c)⟩
    rw [e94] at es et
    have cw : whyT (rd h 94) (tS (rd h 94)) (zC (rd h 94)) r how hr = 0 := by
      unfold movV at c0
      by_cases cc : (0 ≤ r ∧ r < rd h 94 2) ∧ (0 ≤ how ∧ how ≤ 4) ∧ 0 ≤ hr ∧ hr < 24
      · rw [ite_t cc] at c0; exact c0
      · rw [ite_f cc] at c0; omega
    have V' := (VT.cand hG.vt (hG.z1 cr.1 cr.2) bd.1.2 bd.2.1.2 cr.1 cr.2 cw).1
    refine Ag.same (hK _ (Inv.town I (h2 := h2) (wi := [54, 92, 94, 99, 100]) (wj := [55]) ((f1.mono (by simp) (by simp) (by simp)).trans (f2.mono (by simp) (by simp) (by simp))) (fun a ha => ha) (fun a ha => ha) (fun j hj => by rw [m2 j hj, f1.row (by decide)]) z2 es ?_ ?_ ?_).rt)
    · rw [et]
      exact TR.gr T1 f2.gr (by intro k hk; unfold DynP; simp [hk]) List.not_mem_nil (by decide) List.not_mem_nil
    · rw [et]; exact V'
    · intro j j1 j2
      rw [et, cand_n (by omega)]
  · exact ⟨I.m.o0, mX_move I.m I.z hG p0 p0' p1 p1' p2 p2' (fun h2 c => absurd c c0) (fun h2 _ q2 => Ag.same (hK _ (I.qt q2 (Nat.le_succ _)).rt))⟩
theorem x_feed {A B C D E : Int32} (I : Inv h i la fr qa ac) (hK : ∀ h2, RtI (i + 1) h2 → K h2) : wp_X11_feed h 0 A B C D E (fun h1 v1 => ob h1 92 11 ∧ wp_X12_feed h1 92 A B C D E (Ag K v1)) := by
  obtain ⟨t1, t2, t3, t4⟩ := I.t
  refine cX_feed I.s (by rw [t1]; exact t2) (fun h1 c f1 r1 r0 => ?_) (fun c => ?_)
  · have z1 : Z24 h1 := by
      have z := I.z
      unfold Z24 at z ⊢
      rw [f1.row (by decide), f1.row (by decide)]
      exact z
    have M1 := I.m.fr f1
    have e92 : rd h1 92 = rd h 92 := f1.row (by decide)
    refine ⟨M1.o0, mX_feed M1 z1 (by rw [e92]; exact t2) (fun h2 c2 f2 r2 l2 m2 => ?_) (fun h2 c2 => absurd (by rw [e92, ← t1]; exact c) c2)⟩
    rw [e92] at l2 r2 m2 ⊢
    rw [t1]
    refine Ag.same (hK _ (I.tape ((f1.mono (by simp) (by simp) (by simp)).trans (f2.mono (by simp) (by simp) (by simp))) (fun j hj => by rw [f2.row (by decide), r0, updT_n hj]) m2 ⟨?_, ?_, ?_, ?_⟩).rt)
    · rw [f2.row (by decide), r0, updT_s, l2, t1]
    · rw [l2]; rw [t1] at c; omega
    · rw [f2.row (by decide), r1, r2, f1.row (by decide), t3, t1]
    · unfold TByt
      rw [r2, f1.row (by decide)]
      exact feedT_by t4
  · rw [t1] at c
    exact ⟨I.m.o0, mX_feed I.m I.z t2 (fun h2 c2 => absurd c2 c) (fun h2 _ q2 => Ag.same (hK _ (I.qt q2 (Nat.le_succ _)).rt))⟩
theorem x_end (I : Inv h i la fr qa ac) (p0 : -2147483648 ≤ a) (p0' : a < 2147483648) (hK : ∀ h2, RtI (i + 1) h2 → K h2) : wp_X11_end h 0 (iI a) (fun h1 v1 => ob h1 92 11 ∧ wp_X12_end h1 92 (iI a) (Ag K v1)) := by
  obtain ⟨t1, t2, t3, t4⟩ := I.t
  refine cX_end I.s (by rw [t1]; exact t2) p0 p0' (fun h1 c f1 r0 => ?_) (fun c => ?_)
  · have z1 : Z24 h1 := by
      have z := I.z
      unfold Z24 at z ⊢
      rw [f1.row (by decide), f1.row (by decide)]
      exact z
    have M1 := I.m.fr f1
    have e92 : rd h1 92 = rd h 92 := f1.row (by decide)
    rw [t1] at c
    refine ⟨M1.o0, mX_end M1 z1 (by rw [e92]; exact t2) p0 p0' (fun h2 c2 f2 l2 m2 => ?_) (fun h2 c2 => absurd (by rw [e92]; exact c) c2)⟩
    rw [e92] at m2
    refine Ag.same (hK _ (I.tape ((f1.mono (by simp) (by simp) (by simp)).trans (f2.mono (by simp) (by simp) (by simp))) (fun j hj => by rw [f2.row (by decide), r0, updT_n hj]) m2 ⟨?_, ?_, ?_, ?_⟩).rt)
    · rw [f2.row (by decide), r0, updT_s, l2]
    · rw [l2]; omega
    · rw [f2.row (by decide), f1.row (by decide), f2.row (by decide), f1.row (by decide), t3]
    · unfold TByt
      rw [f2.row (by decide), f1.row (by decide)]
      exact t4
  · rw [t1] at c
    exact ⟨I.m.o0, mX_end I.m I.z t2 p0 p0' (fun h2 c2 => absurd c2 c) (fun h2 _ q2 => Ag.same (hK _ (I.qt q2 (Nat.le_succ _)).rt))⟩
theorem x_lay (I : Inv h i la fr qa ac) (hK : ∀ h2, RtI (i + 1) h2 → K h2) : wp_X11_lay h 0 (fun h1 v1 => ob h1 92 11 ∧ wp_X12_lay h1 92 (Ag K v1)) := by
  obtain ⟨t1, t2, t3, t4⟩ := I.t
  have hG := I.ga
  have lt := fun (a : Nat) (ha : a ≤ 118) => I.lt ha
  have T := I.core.2.2.2.2.2.2.1
  have pre : ∀ h1 : AH, ∀ {wq : List (Nat × Nat)}, Gr [0, 54, 60] [55, 61] wq h h1 → MSh h1 ∧ Z24 h1 ∧ rd h1 94 = rd h 94 ∧ rd h1 92 = rd h 92 ∧ rd h1 93 = rd h 93 ∧ bT h1 = bT h ∧ rd h1 1 = rd h 1 := fun h1 wq g => by
    refine ⟨I.m.gr g, ?_, g.row (lt 94 (by omega)) (by decide), g.row (lt 92 (by omega)) (by decide), g.row (lt 93 (by omega)) (by decide), ?_, g.row (lt 1 (by omega)) (by decide)⟩
    · have z := I.z
      unfold Z24 at z ⊢
      rw [g.row (lt 99 (by omega)) (by decide), g.row (lt 100 (by omega)) (by decide)]
      exact z
    · unfold bT
      rw [g.row (lt 93 (by omega)) (by decide)]
  refine cX_lay I (fun h1 c g eN eS e0 T1 V1 => ?_) (fun h1 c g r54 j55 eN eS e0 => ?_)
  · obtain ⟨M1, z1, e94, e92, e93, eb, e1⟩ := pre h1 g
    refine ⟨M1.o0, mX_lay M1 z1 (by rw [e94]; exact hG) (by rw [e92]; exact t2) (fun h2 c2 f2 m2 l2 z2 es et => ?_) (fun h2 c2 => absurd (by rw [e94, e92, eb]; exact c) c2)⟩
    rw [e94] at es et
    rw [eb] at et
    rw [e92] at m2
    refine Ag.same (hK _ (I.town2 ((g.mono (by simp) (by simp) (by simp) (by simp [DynP])).trans (f2.gr.mono (by simp) (by simp) (by simp) (by simp [DynP]))) (by rw [f2.1, eN]) (by rw [f2.2.1, eS]) (fun j hj => by rw [f2.row (by decide), e0, updT_n hj]) m2 z2 ⟨?_, ?_, ?_, ?_⟩ es ?_ ?_ ?_).rt)
    · rw [f2.row (by decide), e0, updT_s, l2]
    · rw [l2]; omega
    · rw [f2.row (by decide), e1, f2.row (by decide), e93, t3]
    · unfold TByt
      rw [f2.row (by decide), e93]
      exact t4
    · rw [et]
      exact TR.gr T1 f2.gr (by intro k hk; unfold DynP; simp [hk]) List.not_mem_nil (by decide) List.not_mem_nil
    · rw [et]; exact V1
    · intro j j1 j2
      rw [et]
      have bd := hG.bd
      unfold byC byT tS
      rw [if_pos (by omega), if_neg (by omega), if_pos (by omega)]
  · obtain ⟨M1, z1, e94, e92, e93, eb, e1⟩ := pre h1 g
    refine ⟨M1.o0, mX_lay M1 z1 (by rw [e94]; exact hG) (by rw [e92]; exact t2) (fun h2 c2 => absurd (by rw [e94, e92, eb] at c2; exact c2) c) (fun h2 _ f2 m2 l2 z2 => ?_)⟩
    rw [e92] at m2
    have s94 : rd h2 94 = rd h 94 := by rw [f2.row (by decide), e94]
    refine Ag.same (hK _ (I.town2 ((g.mono (by simp) (by simp) (by simp) (by simp [DynP])).trans (f2.gr.mono (by simp) (by simp) (by simp) (by simp [DynP]))) (by rw [f2.1, eN]) (by rw [f2.2.1, eS]) (fun j hj => by rw [f2.row (by decide), e0, updT_n hj]) m2 z2 ⟨?_, ?_, ?_, ?_⟩ (fun _ _ => by rw [s94]) ?_ ?_ ?_).rt)
    · rw [f2.row (by decide), e0, updT_s, l2]
    · rw [l2]; omega
    · rw [f2.row (by decide), e1, f2.row (by decide), e93, t3]
    · unfold TByt
      rw [f2.row (by decide), e93]
      exact t4
    · rw [s94]
      obtain ⟨B, p, q1, q2⟩ := T
      have g1 := B.gr g (by intro k hk; unfold DynP; simp [hk])
      have g2 := g1.gr f2.gr (by intro k hk; unfold DynP; simp [hk])
      refine ⟨g2, ((f2.gr.dyn g1.o0.2 List.not_mem_nil).trans (g.dyn B.o0.2 (by decide))).trans p, fun r r1 r2 => ?_, fun r r1 r2 x y => ?_⟩
      · show rd h2 54 r = _
        rw [f2.row (by decide), r54]; exact q1 r r1 r2
      · show _ → _ → _ → _ → (zb (aJ h2 55 r.toNat) (8 * y + x) ↔ _)
        rw [f2.2.2.2.2.2.1 55 List.not_mem_nil, j55]; exact q2 r r1 r2 x y
    · rw [s94]; exact hG.vt
    · intro j _ _; rw [s94]
end XS
