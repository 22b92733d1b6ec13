/-! LAY and COULD -/
section MTT
variable {h h1 h2 : AH} {post : AH → Int32 → Prop} {a c d r x y n sp sq w hh u hr how one k len : Int} {t s z b T : Int → Int}
theorem m_takesT (M : MSh h) (Z : Z24 h) (es : rd h 94 = s) (hG : GA s) (hl : 0 ≤ rd h 92 2 ∧ rd h 92 2 ≤ 940) (eb : b = fun i => rd h 93 i % 256)
    (k : ∀ h', Fr [92, 99, 100] [] [] h h' → MF [2, 3, 4, 5] h h' → rd h' 92 2 = 0 → Z24 h' → rd h' 100 = zC s → (byOK s b (rd h 92 2) → rd h' 99 = byC s b) → post h' (bP (byOK s b (rd h 92 2)))) : wp_X12_takesTown h 92 post := by
  have hS := hG.sb
  have bd := hG.bd
  unfold wp_X12_takesTown
  simp (disch := omega) only [MSh.o0 M, MSh.p1 M, MSh.o1 M, MSh.l1 M, MSh.p6 M, MSh.o2 M, MSh.l2 M, MSh.p7 M, MSh.o3 M, MSh.l3 M, MSh.p8 M, MSh.o4 M, MSh.l4 M, MSh.p9 M, MSh.o5 M, MSh.l5 M, MSh.p10 M, MSh.o6 M, MSh.l6 M, MSh.p24 M, MSh.o7 M, MSh.l7 M, MSh.p25 M, MSh.o8 M, MSh.l8 M, MSh.p26 M, MSh.o9 M, MSh.l9 M, MSh.p32 M, MSh.o10 M, MSh.l10 M, MSh.p33 M, MSh.o11 M, MSh.l11 M, MSh.p35 M, MSh.o12 M, MSh.l12 M, MSh.p36 M, MSh.o13 M, MSh.l13 M, MSh.p37 M, MSh.o14 M, MSh.l14 M, MSh.p38 M, MSh.o15 M, MSh.l15 M, MSh.p39 M, MSh.o16 M, MSh.l16 M, MSh.p42 M, MSh.o17 M, MSh.l17 M, MSh.p43 M, MSh.o18 M, MSh.l18 M, MSh.p44 M, MSh.o19 M, MSh.l19 M, MSh.p45 M, MSh.o20 M, MSh.l20 M, MSh.p46 M, MSh.o21 M, MSh.l21 M, MSh.p47 M, MSh.o22 M, MSh.l22 M, MSh.p50 M, MSh.o23 M, MSh.l23 M, MSh.p51 M, MSh.o24 M, MSh.l24 M, MSh.p52 M, MSh.o25 M, MSh.l25 M, -Int.reduceToNat, -Int32.reduceToNatClampNeg, il0, il1, il2, il3, il4, il5, il6, il7, il8, il9, il10, il11, il12, il13, il14, il15, il16, il17, il18, il19, il20, il21, il22, il23, il24, il25, il26, il27, il28, il29, il30, il31, il32, il35, il36, il38, il40, il42, il43, il44, il45, il46, il47, il48, il49, il50, il51, il52, il57, il59, il60, il63, il64, il75, il80, il95, il96, il97, il98, il99, il100, il120, il122, il123, il127, il128, il135, il167, il175, il225, il249, il250, il255, il256, il360, il370, il384, il600, il700, il740, il900, il940, il1024, il1600, il4800, il64000, il125000, il262143, il1000000000, ob, Option.some.injEq, exists_eq_left', exists_eq_left, true_and, and_true, fqI, fqJ, eq_self, true_or, or_true, bP_0, bP_0i, npP, bP_1i, bP_b, not_true_eq_false, not_false_eq_true, false_implies, true_implies, implies_true, Classical.not_not, and_self]
  refine m_taken M hl (by omega) fun h1 f1 m1 e3 e2 e4 e5 => ?_
  have M1 := M.fr f1
  have Z1' : Z24 h1 := by
    unfold Z24 at Z ⊢
    rw [f1.row (by decide), f1.row (by decide)]
    exact Z
  simp (disch := omega) only [MSh.o0 M1, MSh.p1 M1, MSh.o1 M1, MSh.l1 M1, MSh.p6 M1, MSh.o2 M1, MSh.l2 M1, MSh.p7 M1, MSh.o3 M1, MSh.l3 M1, MSh.p8 M1, MSh.o4 M1, MSh.l4 M1, MSh.p9 M1, MSh.o5 M1, MSh.l5 M1, MSh.p10 M1, MSh.o6 M1, MSh.l6 M1, MSh.p24 M1, MSh.o7 M1, MSh.l7 M1, MSh.p25 M1, MSh.o8 M1, MSh.l8 M1, MSh.p26 M1, MSh.o9 M1, MSh.l9 M1, MSh.p32 M1, MSh.o10 M1, MSh.l10 M1, MSh.p33 M1, MSh.o11 M1, MSh.l11 M1, MSh.p35 M1, MSh.o12 M1, MSh.l12 M1, MSh.p36 M1, MSh.o13 M1, MSh.l13 M1, MSh.p37 M1, MSh.o14 M1, MSh.l14 M1, MSh.p38 M1, MSh.o15 M1, MSh.l15 M1, MSh.p39 M1, MSh.o16 M1, MSh.l16 M1, MSh.p42 M1, MSh.o17 M1, MSh.l17 M1, MSh.p43 M1, MSh.o18 M1, MSh.l18 M1, MSh.p44 M1, MSh.o19 M1, MSh.l19 M1, MSh.p45 M1, MSh.o20 M1, MSh.l20 M1, MSh.p46 M1, MSh.o21 M1, MSh.l21 M1, MSh.p47 M1, MSh.o22 M1, MSh.l22 M1, MSh.p50 M1, MSh.o23 M1, MSh.l23 M1, MSh.p51 M1, MSh.o24 M1, MSh.l24 M1, MSh.p52 M1, MSh.o25 M1, MSh.l25 M1, -Int.reduceToNat, -Int32.reduceToNatClampNeg, il0, il1, il2, il3, il4, il5, il6, il7, il8, il9, il10, il11, il12, il13, il14, il15, il16, il17, il18, il19, il20, il21, il22, il23, il24, il25, il26, il27, il28, il29, il30, il31, il32, il35, il36, il38, il40, il42, il43, il44, il45, il46, il47, il48, il49, il50, il51, il52, il57, il59, il60, il63, il64, il75, il80, il95, il96, il97, il98, il99, il100, il120, il122, il123, il127, il128, il135, il167, il175, il225, il249, il250, il255, il256, il360, il370, il384, il600, il700, il740, il900, il940, il1024, il1600, il4800, il64000, il125000, il262143, il1000000000, ob, Option.some.injEq, exists_eq_left', exists_eq_left, true_and, and_true, fqI, fqJ, eq_self, true_or, or_true, bP_0, bP_0i, npP, bP_1i, bP_b, not_true_eq_false, not_false_eq_true, false_implies, true_implies, implies_true, Classical.not_not, and_self]
  refine m_asIt M1 Z1' fun hb fb tb zb' => ?_
  have Mb := M1.fr fb
  have es1 : rd h1 94 = s := by rw [f1.row (by decide), es]
  have esb : rd hb 94 = s := by rw [fb.row (by decide), es1]
  rw [es1] at tb zb'
  have e92 : rd hb 92 = rd h1 92 := fb.row (by decide)
  have F0 : Fr [92, 99, 100] [] [] h hb := (f1.mono (by simp) (by simp) (by simp)).trans (fb.mono (by simp) (by simp) (by simp))
  have szb : rd hb 92 3 = rd h 92 2 := by rw [e92, e3]
  have e93 : rd hb 93 = rd h 93 := by rw [fb.row (by decide), f1.row (by decide)]
  have zz : ∀ g : AH, rd g 100 = zC s → (∀ j, 24 ≤ j → rd g 99 j = tS s j) → Z24 g := fun g e1 e2 => ⟨fun i hi => by rw [e2 i hi]; exact if_neg (by omega), fun i hi => by rw [e1]; exact if_neg (by omega)⟩
  simp (disch := omega) only [MSh.o0 Mb, MSh.p1 Mb, MSh.o1 Mb, MSh.l1 Mb, MSh.p6 Mb, MSh.o2 Mb, MSh.l2 Mb, MSh.p7 Mb, MSh.o3 Mb, MSh.l3 Mb, MSh.p8 Mb, MSh.o4 Mb, MSh.l4 Mb, MSh.p9 Mb, MSh.o5 Mb, MSh.l5 Mb, MSh.p10 Mb, MSh.o6 Mb, MSh.l6 Mb, MSh.p24 Mb, MSh.o7 Mb, MSh.l7 Mb, MSh.p25 Mb, MSh.o8 Mb, MSh.l8 Mb, MSh.p26 Mb, MSh.o9 Mb, MSh.l9 Mb, MSh.p32 Mb, MSh.o10 Mb, MSh.l10 Mb, MSh.p33 Mb, MSh.o11 Mb, MSh.l11 Mb, MSh.p35 Mb, MSh.o12 Mb, MSh.l12 Mb, MSh.p36 Mb, MSh.o13 Mb, MSh.l13 Mb, MSh.p37 Mb, MSh.o14 Mb, MSh.l14 Mb, MSh.p38 Mb, MSh.o15 Mb, MSh.l15 Mb, MSh.p39 Mb, MSh.o16 Mb, MSh.l16 Mb, MSh.p42 Mb, MSh.o17 Mb, MSh.l17 Mb, MSh.p43 Mb, MSh.o18 Mb, MSh.l18 Mb, MSh.p44 Mb, MSh.o19 Mb, MSh.l19 Mb, MSh.p45 Mb, MSh.o20 Mb, MSh.l20 Mb, MSh.p46 Mb, MSh.o21 Mb, MSh.l21 Mb, MSh.p47 Mb, MSh.o22 Mb, MSh.l22 Mb, MSh.p50 Mb, MSh.o23 Mb, MSh.l23 Mb, MSh.p51 Mb, MSh.o24 Mb, MSh.l24 Mb, MSh.p52 Mb, MSh.o25 Mb, MSh.l25 Mb, fd0, fd1, fd2, fd3, fd4, fd5, fd6, fd7, fd8, fd9, fd10, fd11, fd12, fd13, fd14, fd15, fd16, fd17, fd18, fd19, fd20, fd21, fd22, fd23, fd24, fd25, fd26, fd27, fd28, fd29, fd30, fd31, fd32, fd33, fd34, fd35, fd36, fd37, fd38, fd39, fd40, fd41, fd42, fd43, fd44, fd45, fd46, fd47, fd48, fd49, fd50, fd51, fd52, -Int.reduceToNat, -Int32.reduceToNatClampNeg, il0, il1, il2, il3, il4, il5, il6, il7, il8, il9, il10, il11, il12, il13, il14, il15, il16, il17, il18, il19, il20, il21, il22, il23, il24, il25, il26, il27, il28, il29, il30, il31, il32, il35, il36, il38, il40, il42, il43, il44, il45, il46, il47, il48, il49, il50, il51, il52, il57, il59, il60, il63, il64, il75, il80, il95, il96, il97, il98, il99, il100, il120, il122, il123, il127, il128, il135, il167, il175, il225, il249, il250, il255, il256, il360, il370, il384, il600, il700, il740, il900, il940, il1024, il1600, il4800, il64000, il125000, il262143, il1000000000, iI_toInt, iI_add, iI_sub, iI_mul, iI_neg, iI_lt, iI_le, iI_eq, iI_n, iI_in, iI_div, iI_mod, iI_shm, iI_and1, iI_and7, iI_and63, iI_shr3, iI_shr6, rd_I, ob, Option.some.injEq, exists_eq_left', exists_eq_left, true_and, and_true, fqI, fqJ, eq_self, true_or, or_true, bP_0, bP_0i, npP, bP_1i, bP_b, not_true_eq_false, not_false_eq_true, false_implies, true_implies, implies_true, Classical.not_not, and_self, esb, szb, cP, cP', ite_n]
  by_cases cl : rd h 92 2 = 3 * s 2
  case neg =>
    rw [ite_f cl, ← bP_f (P := byOK s b (rd h 92 2)) (fun q => cl q.1)]
    exact k hb F0 (fun i hi => by rw [e92, m1 i hi]) (by rw [e92, e2]) (zz hb zb' (fun j _ => by rw [tb])) zb' (fun q => absurd q.1 cl)
  rw [ite_t cl]
  refine lf_for (W := fun n (g : AH) i => wl_X12_takesTown_30 post n g 92 (iI i)) (lo := 0) (hi := 3 * s 2) (fun i g => Fr [99] [] [] hb g ∧ (∀ j, j < i → rd g 99 j = byC s b j) ∧ (∀ j, i ≤ j → rd g 99 j = tS s j) ∧ (∀ r, 0 ≤ r → 3 * r + 2 < i → b (3 * r + 2) ≤ 1)) (by omega) ?_ ?_ hb ⟨(Fr.refl hb).mono (by simp) (by simp) (by simp), fun j j2 => by rw [rd_neg j2]; exact (if_neg (by omega)).symm, fun j j1 => by rw [tb], fun r r1 r2 => by omega⟩
  · intro n g i i1 i2 hg kk
    obtain ⟨fg, t1, t2, t3⟩ := hg
    have Mg := Mb.fr fg
    have g92 : rd g 92 3 = 3 * s 2 := by rw [fg.row (by decide), szb, cl]
    have g93 : rd g 93 = rd h 93 := by rw [fg.row (by decide), e93]
    have g100 : rd g 100 = zC s := by rw [fg.row (by decide), zb']
    show wb_X12_takesTown_30 (wl_X12_takesTown_30 post n) g 92 (iI i) post
    have b256 : 0 ≤ rd h 93 i % 256 ∧ rd h 93 i % 256 < 256 := by omega
    have ebi : b i = rd h 93 i % 256 := by rw [eb]
    unfold wb_X12_takesTown_30 wb_X12_takesTown_105 wb_X12_takesTown_106
    simp (disch := omega) only [MSh.o0 Mg, MSh.p1 Mg, MSh.o1 Mg, MSh.l1 Mg, MSh.p6 Mg, MSh.o2 Mg, MSh.l2 Mg, MSh.p7 Mg, MSh.o3 Mg, MSh.l3 Mg, MSh.p8 Mg, MSh.o4 Mg, MSh.l4 Mg, MSh.p9 Mg, MSh.o5 Mg, MSh.l5 Mg, MSh.p10 Mg, MSh.o6 Mg, MSh.l6 Mg, MSh.p24 Mg, MSh.o7 Mg, MSh.l7 Mg, MSh.p25 Mg, MSh.o8 Mg, MSh.l8 Mg, MSh.p26 Mg, MSh.o9 Mg, MSh.l9 Mg, MSh.p32 Mg, MSh.o10 Mg, MSh.l10 Mg, MSh.p33 Mg, MSh.o11 Mg, MSh.l11 Mg, MSh.p35 Mg, MSh.o12 Mg, MSh.l12 Mg, MSh.p36 Mg, MSh.o13 Mg, MSh.l13 Mg, MSh.p37 Mg, MSh.o14 Mg, MSh.l14 Mg, MSh.p38 Mg, MSh.o15 Mg, MSh.l15 Mg, MSh.p39 Mg, MSh.o16 Mg, MSh.l16 Mg, MSh.p42 Mg, MSh.o17 Mg, MSh.l17 Mg, MSh.p43 Mg, MSh.o18 Mg, MSh.l18 Mg, MSh.p44 Mg, MSh.o19 Mg, MSh.l19 Mg, MSh.p45 Mg, MSh.o20 Mg, MSh.l20 Mg, MSh.p46 Mg, MSh.o21 Mg, MSh.l21 Mg, MSh.p47 Mg, MSh.o22 Mg, MSh.l22 Mg, MSh.p50 Mg, MSh.o23 Mg, MSh.l23 Mg, MSh.p51 Mg, MSh.o24 Mg, MSh.l24 Mg, MSh.p52 Mg, MSh.o25 Mg, MSh.l25 Mg, fd0, fd1, fd2, fd3, fd4, fd5, fd6, fd7, fd8, fd9, fd10, fd11, fd12, fd13, fd14, fd15, fd16, fd17, fd18, fd19, fd20, fd21, fd22, fd23, fd24, fd25, fd26, fd27, fd28, fd29, fd30, fd31, fd32, fd33, fd34, fd35, fd36, fd37, fd38, fd39, fd40, fd41, fd42, fd43, fd44, fd45, fd46, fd47, fd48, fd49, fd50, fd51, fd52, -Int.reduceToNat, -Int32.reduceToNatClampNeg, il0, il1, il2, il3, il4, il5, il6, il7, il8, il9, il10, il11, il12, il13, il14, il15, il16, il17, il18, il19, il20, il21, il22, il23, il24, il25, il26, il27, il28, il29, il30, il31, il32, il35, il36, il38, il40, il42, il43, il44, il45, il46, il47, il48, il49, il50, il51, il52, il57, il59, il60, il63, il64, il75, il80, il95, il96, il97, il98, il99, il100, il120, il122, il123, il127, il128, il135, il167, il175, il225, il249, il250, il255, il256, il360, il370, il384, il600, il700, il740, il900, il940, il1024, il1600, il4800, il64000, il125000, il262143, il1000000000, iI_toInt, iI_add, iI_sub, iI_mul, iI_neg, iI_lt, iI_le, iI_eq, iI_n, iI_in, iI_div, iI_mod, iI_shm, iI_and1, iI_and7, iI_and63, iI_shr3, iI_shr6, rd_I, ob, Option.some.injEq, exists_eq_left', exists_eq_left, true_and, and_true, fqI, fqJ, eq_self, true_or, or_true, bP_0, bP_0i, npP, bP_1i, bP_b, not_true_eq_false, not_false_eq_true, false_implies, true_implies, implies_true, Classical.not_not, and_self, g92, m_octet Mg, cP, cP', ite_n, ite_T, ite_F, ite_t, ite_f, g93]
    intro h6 e6
    obtain ⟨f6, r6⟩ := wI (by omega) (by omega) (by omega) e6
    have M6 := Mg.fr f6
    have v6 : rd h6 99 i = rd h 93 i % 256 := by rw [r6, updT_s]
    have h100 : rd h6 100 = zC s := by rw [f6.row (by decide), g100]
    have i24 : i < 24 := by omega
    simp (disch := omega) only [MSh.o0 M6, MSh.p1 M6, MSh.o1 M6, MSh.l1 M6, MSh.p6 M6, MSh.o2 M6, MSh.l2 M6, MSh.p7 M6, MSh.o3 M6, MSh.l3 M6, MSh.p8 M6, MSh.o4 M6, MSh.l4 M6, MSh.p9 M6, MSh.o5 M6, MSh.l5 M6, MSh.p10 M6, MSh.o6 M6, MSh.l6 M6, MSh.p24 M6, MSh.o7 M6, MSh.l7 M6, MSh.p25 M6, MSh.o8 M6, MSh.l8 M6, MSh.p26 M6, MSh.o9 M6, MSh.l9 M6, MSh.p32 M6, MSh.o10 M6, MSh.l10 M6, MSh.p33 M6, MSh.o11 M6, MSh.l11 M6, MSh.p35 M6, MSh.o12 M6, MSh.l12 M6, MSh.p36 M6, MSh.o13 M6, MSh.l13 M6, MSh.p37 M6, MSh.o14 M6, MSh.l14 M6, MSh.p38 M6, MSh.o15 M6, MSh.l15 M6, MSh.p39 M6, MSh.o16 M6, MSh.l16 M6, MSh.p42 M6, MSh.o17 M6, MSh.l17 M6, MSh.p43 M6, MSh.o18 M6, MSh.l18 M6, MSh.p44 M6, MSh.o19 M6, MSh.l19 M6, MSh.p45 M6, MSh.o20 M6, MSh.l20 M6, MSh.p46 M6, MSh.o21 M6, MSh.l21 M6, MSh.p47 M6, MSh.o22 M6, MSh.l22 M6, MSh.p50 M6, MSh.o23 M6, MSh.l23 M6, MSh.p51 M6, MSh.o24 M6, MSh.l24 M6, MSh.p52 M6, MSh.o25 M6, MSh.l25 M6, fd0, fd1, fd2, fd3, fd4, fd5, fd6, fd7, fd8, fd9, fd10, fd11, fd12, fd13, fd14, fd15, fd16, fd17, fd18, fd19, fd20, fd21, fd22, fd23, fd24, fd25, fd26, fd27, fd28, fd29, fd30, fd31, fd32, fd33, fd34, fd35, fd36, fd37, fd38, fd39, fd40, fd41, fd42, fd43, fd44, fd45, fd46, fd47, fd48, fd49, fd50, fd51, fd52, -Int.reduceToNat, -Int32.reduceToNatClampNeg, il0, il1, il2, il3, il4, il5, il6, il7, il8, il9, il10, il11, il12, il13, il14, il15, il16, il17, il18, il19, il20, il21, il22, il23, il24, il25, il26, il27, il28, il29, il30, il31, il32, il35, il36, il38, il40, il42, il43, il44, il45, il46, il47, il48, il49, il50, il51, il52, il57, il59, il60, il63, il64, il75, il80, il95, il96, il97, il98, il99, il100, il120, il122, il123, il127, il128, il135, il167, il175, il225, il249, il250, il255, il256, il360, il370, il384, il600, il700, il740, il900, il940, il1024, il1600, il4800, il64000, il125000, il262143, il1000000000, iI_toInt, iI_add, iI_sub, iI_mul, iI_neg, iI_lt, iI_le, iI_eq, iI_n, iI_in, iI_div, iI_mod, iI_shm, iI_and1, iI_and7, iI_and63, iI_shr3, iI_shr6, rd_I, ob, Option.some.injEq, exists_eq_left', exists_eq_left, true_and, and_true, fqI, fqJ, eq_self, true_or, or_true, bP_0, bP_0i, npP, bP_1i, bP_b, not_true_eq_false, not_false_eq_true, false_implies, true_implies, implies_true, Classical.not_not, and_self, v6, cP, cP', ite_n]
    have em : i - i / 3 * 3 = i % 3 := by omega
    rw [em]
    by_cases cm : 2 ≤ i % 3
    case neg =>
      rw [ite_f cm]
      refine kk h6 ⟨fg.trans f6, fun j j2 => ?_, fun j j1 => ?_, fun r r1 r2 => t3 r r1 (by omega)⟩
      · rw [r6]
        by_cases ce : j = i
        · subst ce
          rw [updT_s, ← ebi]
          unfold byC byT
          rw [if_pos (by omega), if_pos i2, if_neg (by omega)]
        · rw [updT_n ce, t1 j (by omega)]
      · rw [r6, updT_n (by omega), t2 j (by omega)]
    rw [ite_t cm]
    by_cases c1 : rd h 93 i % 256 ≤ 1
    case neg =>
      rw [ite_f c1]
      have hno : ¬ ByOk s b := fun q => by
        have := q ((i - 2) / 3) (by omega) (by omega)
        rw [show 3 * ((i - 2) / 3) + 2 = i by omega, ebi] at this
        exact c1 this
      rw [← bP_f (P := byOK s b (rd h 92 2)) (fun q => hno q.2.1)]
      have f66 := (fg.trans f6).mono (wi' := [92, 99, 100]) (wj' := []) (wq' := []) (by simp) (by simp) (by simp)
      have e926 : rd h6 92 = rd h1 92 := by rw [f6.row (by decide), fg.row (by decide), e92]
      exact k h6 (F0.trans f66) (fun i hi => by rw [e926, m1 i hi]) (by rw [e926, e2]) (zz h6 h100 (fun j hj => by rw [r6, updT_n (by omega), t2 j (by omega)])) h100 (fun q => absurd q.2.1 hno)
    rw [ite_t c1]
    have q1 : rd h6 100 (i - 2) = s (99 + (i - 2)) := by rw [h100, zC_i (by omega) (by omega)]
    have q2 : rd h6 100 (i - 1) = s (99 + (i - 1)) := by rw [h100, zC_i (by omega) (by omega)]
    have q1b := hS (99 + (i - 2)) (by omega) (by omega)
    have q2b := hS (99 + (i - 1)) (by omega) (by omega)
    have fin : ∀ v : Int, 0 ≤ v → v ≤ 1 → byC s b i = v → ∀ h7, h7 = hI h6 99 i.toNat (iI v) → wl_X12_takesTown_30 post n h7 92 (iI (i + 1)) := by
      intro v v1 v2 ev h7 e7
      obtain ⟨f7, r7⟩ := wI (by omega) (by omega) (by omega) e7
      refine kk h7 ⟨fg.trans (f6.trans f7), fun j j2 => ?_, fun j j1 => ?_, fun r r1 r2 => ?_⟩
      · rw [r7]
        by_cases ce : j = i
        · subst ce
          rw [updT_s, ev]
        · rw [updT_n ce, r6, updT_n ce, t1 j (by omega)]
      · rw [r7, updT_n (by omega), r6, updT_n (by omega), t2 j (by omega)]
      · by_cases ce : 3 * r + 2 = i
        · rw [ce, ebi]; exact c1
        · exact t3 r r1 (by omega)
    simp (disch := omega) only [MSh.o0 M6, MSh.p1 M6, MSh.o1 M6, MSh.l1 M6, MSh.p6 M6, MSh.o2 M6, MSh.l2 M6, MSh.p7 M6, MSh.o3 M6, MSh.l3 M6, MSh.p8 M6, MSh.o4 M6, MSh.l4 M6, MSh.p9 M6, MSh.o5 M6, MSh.l5 M6, MSh.p10 M6, MSh.o6 M6, MSh.l6 M6, MSh.p24 M6, MSh.o7 M6, MSh.l7 M6, MSh.p25 M6, MSh.o8 M6, MSh.l8 M6, MSh.p26 M6, MSh.o9 M6, MSh.l9 M6, MSh.p32 M6, MSh.o10 M6, MSh.l10 M6, MSh.p33 M6, MSh.o11 M6, MSh.l11 M6, MSh.p35 M6, MSh.o12 M6, MSh.l12 M6, MSh.p36 M6, MSh.o13 M6, MSh.l13 M6, MSh.p37 M6, MSh.o14 M6, MSh.l14 M6, MSh.p38 M6, MSh.o15 M6, MSh.l15 M6, MSh.p39 M6, MSh.o16 M6, MSh.l16 M6, MSh.p42 M6, MSh.o17 M6, MSh.l17 M6, MSh.p43 M6, MSh.o18 M6, MSh.l18 M6, MSh.p44 M6, MSh.o19 M6, MSh.l19 M6, MSh.p45 M6, MSh.o20 M6, MSh.l20 M6, MSh.p46 M6, MSh.o21 M6, MSh.l21 M6, MSh.p47 M6, MSh.o22 M6, MSh.l22 M6, MSh.p50 M6, MSh.o23 M6, MSh.l23 M6, MSh.p51 M6, MSh.o24 M6, MSh.l24 M6, MSh.p52 M6, MSh.o25 M6, MSh.l25 M6, fd0, fd1, fd2, fd3, fd4, fd5, fd6, fd7, fd8, fd9, fd10, fd11, fd12, fd13, fd14, fd15, fd16, fd17, fd18, fd19, fd20, fd21, fd22, fd23, fd24, fd25, fd26, fd27, fd28, fd29, fd30, fd31, fd32, fd33, fd34, fd35, fd36, fd37, fd38, fd39, fd40, fd41, fd42, fd43, fd44, fd45, fd46, fd47, fd48, fd49, fd50, fd51, fd52, -Int.reduceToNat, -Int32.reduceToNatClampNeg, il0, il1, il2, il3, il4, il5, il6, il7, il8, il9, il10, il11, il12, il13, il14, il15, il16, il17, il18, il19, il20, il21, il22, il23, il24, il25, il26, il27, il28, il29, il30, il31, il32, il35, il36, il38, il40, il42, il43, il44, il45, il46, il47, il48, il49, il50, il51, il52, il57, il59, il60, il63, il64, il75, il80, il95, il96, il97, il98, il99, il100, il120, il122, il123, il127, il128, il135, il167, il175, il225, il249, il250, il255, il256, il360, il370, il384, il600, il700, il740, il900, il940, il1024, il1600, il4800, il64000, il125000, il262143, il1000000000, iI_toInt, iI_add, iI_sub, iI_mul, iI_neg, iI_lt, iI_le, iI_eq, iI_n, iI_in, iI_div, iI_mod, iI_shm, iI_and1, iI_and7, iI_and63, iI_shr3, iI_shr6, rd_I, ob, Option.some.injEq, exists_eq_left', exists_eq_left, true_and, and_true, fqI, fqJ, eq_self, true_or, or_true, bP_0, bP_0i, npP, bP_1i, bP_b, not_true_eq_false, not_false_eq_true, false_implies, true_implies, implies_true, Classical.not_not, and_self, v6, q1, q2, cP, cP', ite_n]
    by_cases cz : s (99 + (i - 2)) = s (99 + (i - 1))
    · rw [ite_t cz]
      exact fin 0 (by omega) (by omega) (by unfold byC byT; rw [if_pos (by omega), if_pos i2, if_pos (by omega), if_pos cz])
    · rw [ite_f cz]
      exact fin _ (by omega) c1 (by unfold byC byT; rw [if_pos (by omega), if_pos i2, if_pos (by omega), if_neg cz, ebi])
  · intro n g hg
    obtain ⟨fg, t1, t2, t3⟩ := hg
    have Mg := Mb.fr fg
    have g92 : rd g 92 3 = 3 * s 2 := by rw [fg.row (by decide), szb, cl]
    have g94 : rd g 94 = s := by rw [fg.row (by decide), esb]
    have g100 : rd g 100 = zC s := by rw [fg.row (by decide), zb']
    have tall : rd g 99 = byC s b := funext fun j => by
      by_cases c : j < 3 * s 2
      · exact t1 j c
      · rw [t2 j (by omega)]
        unfold byC byT tS
        by_cases c2 : 0 ≤ j ∧ j < 24
        · rw [if_pos c2, if_pos c2, if_neg c]
        · rw [if_neg c2, if_neg c2]
    have hby : ByOk s b := fun r r1 r2 => t3 r r1 (by omega)
    have hA : ∀ o, 0 ≤ o → o < rd g 94 2 → RBd (rd g 99) (rd g 100) o := fun o o1 o2 => by
      rw [g94] at o2
      rw [tall, g100]
      have by0 := byC_0 (b := b) o1 o2 bd.2.2.1.2
      have e0 : b (3 * o) = rd h 93 (3 * o) % 256 := by rw [eb]
      have e1 : b (3 * o + 1) = rd h 93 (3 * o + 1) % 256 := by rw [eb]
      have e2 : b (3 * o + 2) = rd h 93 (3 * o + 2) % 256 := by rw [eb]
      have := hby o o1 o2
      refine RBd.of ⟨?_, ?_, ?_⟩ (hG.z1 o1 o2)
      · rw [by0.1]; omega
      · rw [by0.2.1]; omega
      · rw [by0.2.2]; split <;> omega
    show wb_X12_takesTown_30 (wl_X12_takesTown_30 post n) g 92 (iI _) post
    unfold wb_X12_takesTown_30
    simp (disch := omega) only [MSh.o0 Mg, MSh.p1 Mg, MSh.o1 Mg, MSh.l1 Mg, MSh.p6 Mg, MSh.o2 Mg, MSh.l2 Mg, MSh.p7 Mg, MSh.o3 Mg, MSh.l3 Mg, MSh.p8 Mg, MSh.o4 Mg, MSh.l4 Mg, MSh.p9 Mg, MSh.o5 Mg, MSh.l5 Mg, MSh.p10 Mg, MSh.o6 Mg, MSh.l6 Mg, MSh.p24 Mg, MSh.o7 Mg, MSh.l7 Mg, MSh.p25 Mg, MSh.o8 Mg, MSh.l8 Mg, MSh.p26 Mg, MSh.o9 Mg, MSh.l9 Mg, MSh.p32 Mg, MSh.o10 Mg, MSh.l10 Mg, MSh.p33 Mg, MSh.o11 Mg, MSh.l11 Mg, MSh.p35 Mg, MSh.o12 Mg, MSh.l12 Mg, MSh.p36 Mg, MSh.o13 Mg, MSh.l13 Mg, MSh.p37 Mg, MSh.o14 Mg, MSh.l14 Mg, MSh.p38 Mg, MSh.o15 Mg, MSh.l15 Mg, MSh.p39 Mg, MSh.o16 Mg, MSh.l16 Mg, MSh.p42 Mg, MSh.o17 Mg, MSh.l17 Mg, MSh.p43 Mg, MSh.o18 Mg, MSh.l18 Mg, MSh.p44 Mg, MSh.o19 Mg, MSh.l19 Mg, MSh.p45 Mg, MSh.o20 Mg, MSh.l20 Mg, MSh.p46 Mg, MSh.o21 Mg, MSh.l21 Mg, MSh.p47 Mg, MSh.o22 Mg, MSh.l22 Mg, MSh.p50 Mg, MSh.o23 Mg, MSh.l23 Mg, MSh.p51 Mg, MSh.o24 Mg, MSh.l24 Mg, MSh.p52 Mg, MSh.o25 Mg, MSh.l25 Mg, fd0, fd1, fd2, fd3, fd4, fd5, fd6, fd7, fd8, fd9, fd10, fd11, fd12, fd13, fd14, fd15, fd16, fd17, fd18, fd19, fd20, fd21, fd22, fd23, fd24, fd25, fd26, fd27, fd28, fd29, fd30, fd31, fd32, fd33, fd34, fd35, fd36, fd37, fd38, fd39, fd40, fd41, fd42, fd43, fd44, fd45, fd46, fd47, fd48, fd49, fd50, fd51, fd52, -Int.reduceToNat, -Int32.reduceToNatClampNeg, il0, il1, il2, il3, il4, il5, il6, il7, il8, il9, il10, il11, il12, il13, il14, il15, il16, il17, il18, il19, il20, il21, il22, il23, il24, il25, il26, il27, il28, il29, il30, il31, il32, il35, il36, il38, il40, il42, il43, il44, il45, il46, il47, il48, il49, il50, il51, il52, il57, il59, il60, il63, il64, il75, il80, il95, il96, il97, il98, il99, il100, il120, il122, il123, il127, il128, il135, il167, il175, il225, il249, il250, il255, il256, il360, il370, il384, il600, il700, il740, il900, il940, il1024, il1600, il4800, il64000, il125000, il262143, il1000000000, iI_toInt, iI_add, iI_sub, iI_mul, iI_neg, iI_lt, iI_le, iI_eq, iI_n, iI_in, iI_div, iI_mod, iI_shm, iI_and1, iI_and7, iI_and63, iI_shr3, iI_shr6, rd_I, ob, Option.some.injEq, exists_eq_left', exists_eq_left, true_and, and_true, fqI, fqJ, eq_self, true_or, or_true, bP_0, bP_0i, npP, bP_1i, bP_b, not_true_eq_false, not_false_eq_true, false_implies, true_implies, implies_true, Classical.not_not, and_self, g92, cP, cP', ite_n, ite_T, ite_F, ite_t, ite_f]
    rw [m_isTown Mg (by rw [g94]; exact hS) (by rw [g94]; omega) (by rw [g94]; omega) (by rw [g94]; omega) hA]
    simp (disch := omega) only [-Int.reduceToNat, -Int32.reduceToNatClampNeg, il0, il1, il2, il3, il4, il5, il6, il7, il8, il9, il10, il11, il12, il13, il14, il15, il16, il17, il18, il19, il20, il21, il22, il23, il24, il25, il26, il27, il28, il29, il30, il31, il32, il35, il36, il38, il40, il42, il43, il44, il45, il46, il47, il48, il49, il50, il51, il52, il57, il59, il60, il63, il64, il75, il80, il95, il96, il97, il98, il99, il100, il120, il122, il123, il127, il128, il135, il167, il175, il225, il249, il250, il255, il256, il360, il370, il384, il600, il700, il740, il900, il940, il1024, il1600, il4800, il64000, il125000, il262143, il1000000000, iI_toInt, iI_add, iI_sub, iI_mul, iI_neg, iI_lt, iI_le, iI_eq, iI_n, iI_in, iI_div, iI_mod, iI_shm, iI_and1, iI_and7, iI_and63, iI_shr3, iI_shr6, rd_I, ob, Option.some.injEq, exists_eq_left', exists_eq_left, true_and, and_true, fqI, fqJ, eq_self, true_or, or_true, bP_0, bP_0i, npP, bP_1i, bP_b, not_true_eq_false, not_false_eq_true, false_implies, true_implies, implies_true, Classical.not_not, and_self]
    have et : townT (rd g 94) (rd g 99) (rd g 100) ↔ byOK s b (rd h 92 2) := by
      rw [g94, tall, g100]
      exact ⟨fun q => ⟨cl, hby, q⟩, fun q => q.2.2⟩
    rw [bP_c et]
    have f66 := fg.mono (wi' := [92, 99, 100]) (wj' := []) (wq' := []) (by simp) (by simp) (by simp)
    have e926 : rd g 92 = rd h1 92 := by rw [fg.row (by decide), e92]
    exact k g (F0.trans f66) (fun i hi => by rw [e926, m1 i hi]) (by rw [e926, e2]) (zz g g100 (fun j hj => t2 j (by omega))) g100 (fun _ => tall)
end MTT
section LAY
variable {h h1 h2 : AH} {i la fr qa ac : Nat} {postV : AH → Prop} {post : AH → Int32 → Prop} {a b c d r x y n sp sq w hh u hr how one k : Int}
def bT (h : AH) : Int → Int := fun i => rd h 93 i % 256
theorem Inv.t (I : Inv h i la fr qa ac) : IvT h := I.2.2.2.2.2.2.2.2.2.2.1
theorem c_takeTape (S : CSh h) (k : ∀ h', Fr [0] [] [] h h' → rd h' 0 = updT (rd h 0) 1 0 → post h' (iI (rd h 0 1))) : wp_X11_takeTape h 0 post := by
  unfold wp_X11_takeTape
  refine ⟨S.o0, fun v ev => ⟨S.o0, fun h1 e1 => ?_⟩⟩
  obtain ⟨f1, r1⟩ := wI (i := 1) (v := 0) (by omega) (by omega) (by omega) e1
  rw [ev, fd1]
  exact k h1 f1 r1
/-- the tape's bytes laid into a town of the class's own -/
theorem c_laySpare (I : Inv h i la fr qa ac) (k : ∀ h', Gr [0, 60] [61] [(59, 0)] h h' → aN h' = aN h → aS h' = aS h → rd h' 0 = updT (rd h 0) 1 0 → (byOK (rd h 94) (bT h) (rd h 92 2) → TR h' 59 la (rd h 94) (byC (rd h 94) (bT h)) (zC (rd h 94)) ∧ VT (rd h 94) (byC (rd h 94) (bT h)) (zC (rd h 94))) → post h' (bP (byOK (rd h 94) (bT h) (rd h 92 2)))) : wp_X11_takeTape h 0 (fun h1 v => ob h1 59 7 ∧ wp_X8_readBytes h1 59 la 1 v post) := by
  obtain ⟨S, M, hl, hp, H, L, T, hG, hZ⟩ := I.core
  obtain ⟨t1, t2, t3, t4⟩ := I.t
  refine c_takeTape S fun h1 f1 r1 => ?_
  have S1 := S.gr f1.gr
  have e1 : rd h1 1 = rd h 93 := by rw [f1.row (by decide), t3]
  refine ⟨S1.o59, ?_⟩
  rw [t1]
  refine c_readBytes (b := bT h) (s := rd h 94) (H.gr f1.gr (by omega)) (L.grw H f1.gr (fun j hj => by simp; omega) (fun j hj => by simp)) S1.t59 (by unfold LD; omega) hG.1 S1.o1 S1.l1 (by rw [e1]; exact t4) (by decide) t2 (by rw [e1]; rfl) fun h' f' hk hT => ?_
  have g1 : Gr [0, 60] [61] [(59, 0)] h h1 := f1.gr.mono (by simp) (by simp) (by simp) (by simp [DynP])
  have g2 : Gr [0, 60] [61] [(59, 0)] h1 h' := (f'.gr1 (f0 := 0) (by decide) hk).mono (by simp) (by simp) (by simp) (by simp [DynP])
  exact k h' (g1.trans g2) (by rw [f'.1, f1.1]) (by rw [f'.2.1, f1.2.1]) (by rw [f'.row (by decide), r1]) hT
theorem cX_lay (I : Inv h i la fr qa ac) (k1 : ∀ h', byOK (rd h 94) (bT h) (rd h 92 2) → Gr [0, 54, 60] [55, 61] [(53, 0), (59, 0)] h h' → aN h' = aN h → aS h' = aS h → rd h' 0 = updT (rd h 0) 1 0 → TR h' 53 la (rd h 94) (byC (rd h 94) (bT h)) (zC (rd h 94)) → VT (rd h 94) (byC (rd h 94) (bT h)) (zC (rd h 94)) → post h' (iI 1))
    (k0 : ∀ h', ¬ byOK (rd h 94) (bT h) (rd h 92 2) → Gr [0, 54, 60] [55, 61] [(59, 0)] h h' → rd h' 54 = rd h 54 → aJ h' 55 = aJ h 55 → aN h' = aN h → aS h' = aS h → rd h' 0 = updT (rd h 0) 1 0 → post h' (iI 0)) : wp_X11_lay h 0 post := by
  obtain ⟨S, M, hl, hp, H, L, T, hG, hZ⟩ := I.core
  have l54 := I.lt (a := 54) (by omega)
  have l55 := I.lt (a := 55) (by omega)
  unfold wp_X11_lay
  simp (disch := omega) only [CSh.o0 S, CSh.o1 S, CSh.o2 S, CSh.o3 S, CSh.o26 S, CSh.o27 S, CSh.o29 S, CSh.o30 S, CSh.o31 S, CSh.o56 S, CSh.o57 S, CSh.o58 S, CSh.o62 S, CSh.o66 S, CSh.o70 S, CSh.o74 S, CSh.o75 S, CSh.o77 S, CSh.o79 S, CSh.o80 S, CSh.o81 S, CSh.o82 S, CSh.o83 S, CSh.o84 S, CSh.o85 S, CSh.o86 S, CSh.o87 S, CSh.o88 S, CSh.o53 S, CSh.o54 S, CSh.o55 S, CSh.o59 S, CSh.o60 S, CSh.o61 S, CSh.o63 S, CSh.o64 S, CSh.o65 S, CSh.o67 S, CSh.o68 S, CSh.o69 S, CSh.o71 S, CSh.o72 S, CSh.o73 S, CSh.o89 S, CSh.o90 S, CSh.o91 S, CSh.l1 S, CSh.l3 S, CSh.l27 S, CSh.l29 S, CSh.l30 S, CSh.l56 S, CSh.l57 S, CSh.l58 S, CSh.l75 S, CSh.l77 S, CSh.l79 S, CSh.l81 S, CSh.l82 S, CSh.l83 S, CSh.l84 S, CSh.l85 S, CSh.l86 S, CSh.l87 S, CSh.l88 S, CSh.l54 S, CSh.l55 S, CSh.l60 S, CSh.l61 S, CSh.l64 S, CSh.l65 S, CSh.l68 S, CSh.l69 S, CSh.l72 S, CSh.l73 S, CSh.l90 S, CSh.l91 S, CSh.p0_0 S, CSh.p0_3 S, CSh.p0_4 S, CSh.p0_5 S, CSh.p0_6 S, CSh.p0_7 S, CSh.p0_8 S, CSh.p0_9 S, CSh.p0_10 S, CSh.p0_14 S, CSh.p2_0 S, CSh.p26_0 S, CSh.p26_13 S, CSh.p26_14 S, CSh.p31_1 S, CSh.p31_3 S, CSh.p31_4 S, CSh.p62_0 S, CSh.p66_0 S, CSh.p70_0 S, CSh.p74_0 S, CSh.p74_1 S, CSh.p74_6 S, CSh.p74_7 S, CSh.p74_10 S, CSh.p80_1 S, CSh.p80_2 S, CSh.p80_3 S, CSh.p80_4 S, CSh.p80_5 S, CSh.p80_6 S, CSh.p80_7 S, CSh.p80_8 S, CSh.p53_1 S, CSh.p53_2 S, CSh.p59_1 S, CSh.p59_2 S, CSh.p63_1 S, CSh.p63_2 S, CSh.p67_1 S, CSh.p67_2 S, CSh.p71_1 S, CSh.p71_2 S, CSh.p89_1 S, CSh.p89_2 S, hp, -Int.reduceToNat, -Int32.reduceToNatClampNeg, il0, il1, il2, il3, il4, il5, il6, il7, il8, il9, il10, il11, il12, il13, il14, il15, il16, il17, il18, il19, il20, il21, il22, il23, il24, il25, il26, il27, il28, il29, il30, il31, il32, il35, il36, il38, il40, il42, il43, il44, il45, il46, il47, il48, il49, il50, il51, il52, il57, il59, il60, il63, il64, il75, il80, il95, il96, il97, il98, il99, il100, il120, il122, il123, il127, il128, il135, il167, il175, il225, il249, il250, il255, il256, il360, il370, il384, il600, il700, il740, il900, il940, il1024, il1600, il4800, il64000, il125000, il262143, il1000000000, ob, Option.some.injEq, exists_eq_left', exists_eq_left, true_and, and_true, fqI, fqJ, eq_self, true_or, or_true, bP_0, bP_0i, npP, bP_1i, bP_b, not_true_eq_false, not_false_eq_true, false_implies, true_implies, implies_true, Classical.not_not, and_self]
  refine c_laySpare I fun h' g eN eS e0 hT => ?_
  have S2 := S.gr g
  have hp' : aP h' 31 0 = some la := (g.dyn (S.o31).2 (by decide)).trans hp
  by_cases c : byOK (rd h 94) (bT h) (rd h 92 2)
  · rw [bP_t c]
    simp (disch := omega) only [CSh.o0 S2, CSh.o1 S2, CSh.o2 S2, CSh.o3 S2, CSh.o26 S2, CSh.o27 S2, CSh.o29 S2, CSh.o30 S2, CSh.o31 S2, CSh.o56 S2, CSh.o57 S2, CSh.o58 S2, CSh.o62 S2, CSh.o66 S2, CSh.o70 S2, CSh.o74 S2, CSh.o75 S2, CSh.o77 S2, CSh.o79 S2, CSh.o80 S2, CSh.o81 S2, CSh.o82 S2, CSh.o83 S2, CSh.o84 S2, CSh.o85 S2, CSh.o86 S2, CSh.o87 S2, CSh.o88 S2, CSh.o53 S2, CSh.o54 S2, CSh.o55 S2, CSh.o59 S2, CSh.o60 S2, CSh.o61 S2, CSh.o63 S2, CSh.o64 S2, CSh.o65 S2, CSh.o67 S2, CSh.o68 S2, CSh.o69 S2, CSh.o71 S2, CSh.o72 S2, CSh.o73 S2, CSh.o89 S2, CSh.o90 S2, CSh.o91 S2, CSh.l1 S2, CSh.l3 S2, CSh.l27 S2, CSh.l29 S2, CSh.l30 S2, CSh.l56 S2, CSh.l57 S2, CSh.l58 S2, CSh.l75 S2, CSh.l77 S2, CSh.l79 S2, CSh.l81 S2, CSh.l82 S2, CSh.l83 S2, CSh.l84 S2, CSh.l85 S2, CSh.l86 S2, CSh.l87 S2, CSh.l88 S2, CSh.l54 S2, CSh.l55 S2, CSh.l60 S2, CSh.l61 S2, CSh.l64 S2, CSh.l65 S2, CSh.l68 S2, CSh.l69 S2, CSh.l72 S2, CSh.l73 S2, CSh.l90 S2, CSh.l91 S2, CSh.p0_0 S2, CSh.p0_3 S2, CSh.p0_4 S2, CSh.p0_5 S2, CSh.p0_6 S2, CSh.p0_7 S2, CSh.p0_8 S2, CSh.p0_9 S2, CSh.p0_10 S2, CSh.p0_14 S2, CSh.p2_0 S2, CSh.p26_0 S2, CSh.p26_13 S2, CSh.p26_14 S2, CSh.p31_1 S2, CSh.p31_3 S2, CSh.p31_4 S2, CSh.p62_0 S2, CSh.p66_0 S2, CSh.p70_0 S2, CSh.p74_0 S2, CSh.p74_1 S2, CSh.p74_6 S2, CSh.p74_7 S2, CSh.p74_10 S2, CSh.p80_1 S2, CSh.p80_2 S2, CSh.p80_3 S2, CSh.p80_4 S2, CSh.p80_5 S2, CSh.p80_6 S2, CSh.p80_7 S2, CSh.p80_8 S2, CSh.p53_1 S2, CSh.p53_2 S2, CSh.p59_1 S2, CSh.p59_2 S2, CSh.p63_1 S2, CSh.p63_2 S2, CSh.p67_1 S2, CSh.p67_2 S2, CSh.p71_1 S2, CSh.p71_2 S2, CSh.p89_1 S2, CSh.p89_2 S2, hp', -Int.reduceToNat, -Int32.reduceToNatClampNeg, il0, il1, il2, il3, il4, il5, il6, il7, il8, il9, il10, il11, il12, il13, il14, il15, il16, il17, il18, il19, il20, il21, il22, il23, il24, il25, il26, il27, il28, il29, il30, il31, il32, il35, il36, il38, il40, il42, il43, il44, il45, il46, il47, il48, il49, il50, il51, il52, il57, il59, il60, il63, il64, il75, il80, il95, il96, il97, il98, il99, il100, il120, il122, il123, il127, il128, il135, il167, il175, il225, il249, il250, il255, il256, il360, il370, il384, il600, il700, il740, il900, il940, il1024, il1600, il4800, il64000, il125000, il262143, il1000000000, iI_toInt, iI_add, iI_sub, iI_mul, iI_neg, iI_lt, iI_le, iI_eq, iI_n, iI_in, iI_div, iI_mod, iI_shm, iI_and1, iI_and7, iI_and63, iI_shr3, iI_shr6, rd_I, ob, Option.some.injEq, exists_eq_left', exists_eq_left, true_and, and_true, fqI, fqJ, eq_self, true_or, or_true, bP_0, bP_0i, npP, bP_1i, bP_b, not_true_eq_false, not_false_eq_true, false_implies, true_implies, implies_true, Classical.not_not, and_self, cP, cP', ite_n, ite_T, ite_F, ite_t, ite_f]
    obtain ⟨TR', V'⟩ := hT c
    refine c_follow S2.t53 S2.t59 (by decide) fun h2 f2 p0 pj rs rj => ?_
    have g2 : Gr [54] [55] [(53, 0)] h' h2 := f2.gr1 (by decide) pj
    refine k1 h2 c ((g.mono (by simp) (by simp) (by simp) (by simp [DynP])).trans (g2.mono (by simp) (by simp) (by simp) (by simp [DynP]))) (by rw [f2.1, eN]) (by rw [f2.2.1, eS]) (by rw [f2.row (by decide), e0]) ?_ V'
    have bd := hG.bd
    refine ⟨S2.t53.gr g2 (by intro k hk; unfold DynP; simp [hk]), p0, fun r r1 r2 => ?_, fun r r1 r2 x y x1 x2 y1 y2 => ?_⟩
    · rw [rs r r1 (by omega)]; exact TR'.2.2.1 r r1 r2
    · rw [rj r r1 (by omega)]; exact TR'.2.2.2 r r1 r2 x y x1 x2 y1 y2
  · rw [bP_f c]
    simp (disch := omega) only [-Int.reduceToNat, -Int32.reduceToNatClampNeg, il0, il1, il2, il3, il4, il5, il6, il7, il8, il9, il10, il11, il12, il13, il14, il15, il16, il17, il18, il19, il20, il21, il22, il23, il24, il25, il26, il27, il28, il29, il30, il31, il32, il35, il36, il38, il40, il42, il43, il44, il45, il46, il47, il48, il49, il50, il51, il52, il57, il59, il60, il63, il64, il75, il80, il95, il96, il97, il98, il99, il100, il120, il122, il123, il127, il128, il135, il167, il175, il225, il249, il250, il255, il256, il360, il370, il384, il600, il700, il740, il900, il940, il1024, il1600, il4800, il64000, il125000, il262143, il1000000000, iI_toInt, iI_add, iI_sub, iI_mul, iI_neg, iI_lt, iI_le, iI_eq, iI_n, iI_in, iI_div, iI_mod, iI_shm, iI_and1, iI_and7, iI_and63, iI_shr3, iI_shr6, rd_I, ob, Option.some.injEq, exists_eq_left', exists_eq_left, true_and, and_true, fqI, fqJ, eq_self, true_or, or_true, bP_0, bP_0i, npP, bP_1i, bP_b, not_true_eq_false, not_false_eq_true, false_implies, true_implies, implies_true, Classical.not_not, and_self, cP, cP', ite_n, ite_T, ite_F, ite_t, ite_f]
    exact k0 h' c (g.mono (by simp) (by simp) (by simp) (by simp [DynP])) (g.row l54 (by decide)) (g.jow l55 (by decide)) eN eS e0
theorem mX_lay (M : MSh h) (Z : Z24 h) (hG : GA (rd h 94)) (hl : 0 ≤ rd h 92 2 ∧ rd h 92 2 ≤ 940)
    (k1 : ∀ h', byOK (rd h 94) (bT h) (rd h 92 2) → Fr [92, 94, 99, 100] [] [] h h' → (∀ j, j ∈ QW → j ≠ 2 → rd h' 92 j = rd h 92 j) → rd h' 92 2 = 0 → Z24 h' → (∀ i, i < 225 ∨ 249 ≤ i → rd h' 94 i = rd h 94 i) → tS (rd h' 94) = byC (rd h 94) (bT h) → post h' (iI 1))
    (k0 : ∀ h', ¬ byOK (rd h 94) (bT h) (rd h 92 2) → Fr [92, 99, 100] [] [] h h' → (∀ j, j ∈ QW → j ≠ 2 → rd h' 92 j = rd h 92 j) → rd h' 92 2 = 0 → Z24 h' → post h' (iI 0)) : wp_X12_lay h 92 post := by
  unfold wp_X12_lay
  refine ⟨M.o0, fun h1 e1 => ?_⟩
  obtain ⟨M1, q1, f1, r1, -⟩ := m_thr0 M Z e1
  have e94 : rd h1 94 = rd h 94 := f1.row (by decide)
  have l0 : rd h1 92 2 = rd h 92 2 := q1.2.1 2 (by decide)
  have eb : bT h = fun i => rd h1 93 i % 256 := by unfold bT; rw [f1.row (by decide)]
  have nq : ∀ j, j ∈ QW → j ≠ 2 → j ∉ [(2 : Int), 3, 4, 5] := by decide
  refine ⟨M1.o0, m_takesT M1 q1.2.2 e94 hG (by omega) eb fun h2 f2 m2 e2 z2 e100 e99 => ?_⟩
  rw [l0] at e99 ⊢
  have M2 := M1.fr f2
  by_cases c : byOK (rd h 94) (bT h) (rd h 92 2)
  · rw [bP_t c]
    simp (disch := omega) only [MSh.o0 M2, MSh.p1 M2, MSh.o1 M2, MSh.l1 M2, MSh.p6 M2, MSh.o2 M2, MSh.l2 M2, MSh.p7 M2, MSh.o3 M2, MSh.l3 M2, MSh.p8 M2, MSh.o4 M2, MSh.l4 M2, MSh.p9 M2, MSh.o5 M2, MSh.l5 M2, MSh.p10 M2, MSh.o6 M2, MSh.l6 M2, MSh.p24 M2, MSh.o7 M2, MSh.l7 M2, MSh.p25 M2, MSh.o8 M2, MSh.l8 M2, MSh.p26 M2, MSh.o9 M2, MSh.l9 M2, MSh.p32 M2, MSh.o10 M2, MSh.l10 M2, MSh.p33 M2, MSh.o11 M2, MSh.l11 M2, MSh.p35 M2, MSh.o12 M2, MSh.l12 M2, MSh.p36 M2, MSh.o13 M2, MSh.l13 M2, MSh.p37 M2, MSh.o14 M2, MSh.l14 M2, MSh.p38 M2, MSh.o15 M2, MSh.l15 M2, MSh.p39 M2, MSh.o16 M2, MSh.l16 M2, MSh.p42 M2, MSh.o17 M2, MSh.l17 M2, MSh.p43 M2, MSh.o18 M2, MSh.l18 M2, MSh.p44 M2, MSh.o19 M2, MSh.l19 M2, MSh.p45 M2, MSh.o20 M2, MSh.l20 M2, MSh.p46 M2, MSh.o21 M2, MSh.l21 M2, MSh.p47 M2, MSh.o22 M2, MSh.l22 M2, MSh.p50 M2, MSh.o23 M2, MSh.l23 M2, MSh.p51 M2, MSh.o24 M2, MSh.l24 M2, MSh.p52 M2, MSh.o25 M2, MSh.l25 M2, -Int.reduceToNat, -Int32.reduceToNatClampNeg, il0, il1, il2, il3, il4, il5, il6, il7, il8, il9, il10, il11, il12, il13, il14, il15, il16, il17, il18, il19, il20, il21, il22, il23, il24, il25, il26, il27, il28, il29, il30, il31, il32, il35, il36, il38, il40, il42, il43, il44, il45, il46, il47, il48, il49, il50, il51, il52, il57, il59, il60, il63, il64, il75, il80, il95, il96, il97, il98, il99, il100, il120, il122, il123, il127, il128, il135, il167, il175, il225, il249, il250, il255, il256, il360, il370, il384, il600, il700, il740, il900, il940, il1024, il1600, il4800, il64000, il125000, il262143, il1000000000, iI_toInt, iI_add, iI_sub, iI_mul, iI_neg, iI_lt, iI_le, iI_eq, iI_n, iI_in, iI_div, iI_mod, iI_shm, iI_and1, iI_and7, iI_and63, iI_shr3, iI_shr6, rd_I, ob, Option.some.injEq, exists_eq_left', exists_eq_left, true_and, and_true, fqI, fqJ, eq_self, true_or, or_true, bP_0, bP_0i, npP, bP_1i, bP_b, not_true_eq_false, not_false_eq_true, false_implies, true_implies, implies_true, Classical.not_not, and_self, cP, cP', ite_n, ite_T, ite_F, ite_t, ite_f]
    refine m_keepTown M2 fun h3 f3 e3 e3' => ?_
    refine k1 h3 c ((f1.mono (by simp) (by simp) (by simp)).trans ((f2.mono (by simp) (by simp) (by simp)).trans (f3.mono (by simp) (by simp) (by simp)))) (fun j hj h2' => ?_) (by rw [f3.row (by decide), e2]) ?_ (fun i hi => ?_) (funext fun i => ?_)
    · rw [f3.row (by decide), m2 j (nq j hj h2'), q1.2.1 j hj]
    · unfold Z24 at z2 ⊢
      rw [f3.row (by decide), f3.row (by decide)]
      exact z2
    · rw [e3' i hi, f2.row (by decide), e94]
    · show (if 0 ≤ i ∧ i < 24 then rd h3 94 (225 + i) else 0) = _
      by_cases ci : 0 ≤ i ∧ i < 24
      · rw [if_pos ci, e3 i ci.1 ci.2, e99 c]
      · rw [if_neg ci]
        exact (if_neg ci).symm
  · rw [bP_f c]
    simp (disch := omega) only [MSh.o0 M2, MSh.p1 M2, MSh.o1 M2, MSh.l1 M2, MSh.p6 M2, MSh.o2 M2, MSh.l2 M2, MSh.p7 M2, MSh.o3 M2, MSh.l3 M2, MSh.p8 M2, MSh.o4 M2, MSh.l4 M2, MSh.p9 M2, MSh.o5 M2, MSh.l5 M2, MSh.p10 M2, MSh.o6 M2, MSh.l6 M2, MSh.p24 M2, MSh.o7 M2, MSh.l7 M2, MSh.p25 M2, MSh.o8 M2, MSh.l8 M2, MSh.p26 M2, MSh.o9 M2, MSh.l9 M2, MSh.p32 M2, MSh.o10 M2, MSh.l10 M2, MSh.p33 M2, MSh.o11 M2, MSh.l11 M2, MSh.p35 M2, MSh.o12 M2, MSh.l12 M2, MSh.p36 M2, MSh.o13 M2, MSh.l13 M2, MSh.p37 M2, MSh.o14 M2, MSh.l14 M2, MSh.p38 M2, MSh.o15 M2, MSh.l15 M2, MSh.p39 M2, MSh.o16 M2, MSh.l16 M2, MSh.p42 M2, MSh.o17 M2, MSh.l17 M2, MSh.p43 M2, MSh.o18 M2, MSh.l18 M2, MSh.p44 M2, MSh.o19 M2, MSh.l19 M2, MSh.p45 M2, MSh.o20 M2, MSh.l20 M2, MSh.p46 M2, MSh.o21 M2, MSh.l21 M2, MSh.p47 M2, MSh.o22 M2, MSh.l22 M2, MSh.p50 M2, MSh.o23 M2, MSh.l23 M2, MSh.p51 M2, MSh.o24 M2, MSh.l24 M2, MSh.p52 M2, MSh.o25 M2, MSh.l25 M2, -Int.reduceToNat, -Int32.reduceToNatClampNeg, il0, il1, il2, il3, il4, il5, il6, il7, il8, il9, il10, il11, il12, il13, il14, il15, il16, il17, il18, il19, il20, il21, il22, il23, il24, il25, il26, il27, il28, il29, il30, il31, il32, il35, il36, il38, il40, il42, il43, il44, il45, il46, il47, il48, il49, il50, il51, il52, il57, il59, il60, il63, il64, il75, il80, il95, il96, il97, il98, il99, il100, il120, il122, il123, il127, il128, il135, il167, il175, il225, il249, il250, il255, il256, il360, il370, il384, il600, il700, il740, il900, il940, il1024, il1600, il4800, il64000, il125000, il262143, il1000000000, iI_toInt, iI_add, iI_sub, iI_mul, iI_neg, iI_lt, iI_le, iI_eq, iI_n, iI_in, iI_div, iI_mod, iI_shm, iI_and1, iI_and7, iI_and63, iI_shr3, iI_shr6, rd_I, ob, Option.some.injEq, exists_eq_left', exists_eq_left, true_and, and_true, fqI, fqJ, eq_self, true_or, or_true, bP_0, bP_0i, npP, bP_1i, bP_b, not_true_eq_false, not_false_eq_true, false_implies, true_implies, implies_true, Classical.not_not, and_self, cP, cP', ite_n, ite_T, ite_F, ite_t, ite_f]
    exact k0 h2 c ((f1.mono (by simp) (by simp) (by simp)).trans f2) (fun j hj h2' => by rw [m2 j (nq j hj h2'), q1.2.1 j hj]) e2 z2
/-- a town set anew in both, the tape taken -/
theorem Inv.town2 (I : Inv h i la fr qa ac) (g : Gr [0, 54, 60, 92, 94, 99, 100] [55, 61] [(53, 0), (59, 0)] h h2) (eN : aN h2 = aN h) (eS : aS h2 = aS h) (e0 : ∀ j, j ≠ 1 → rd h2 0 j = rd h 0 j) (eq : ∀ j, j ∈ QW → j ≠ 2 → rd h2 92 j = rd h 92 j) (z : Z24 h2) (iT : IvT h2) (es : ∀ i, i < 225 ∨ 249 ≤ i → rd h2 94 i = rd h 94 i)
    (T' : TR h2 53 la (rd h 94) (tS (rd h2 94)) (zC (rd h 94))) (V' : VT (rd h 94) (tS (rd h2 94)) (zC (rd h 94))) (eo : ∀ j, 3 * rd h 94 2 ≤ j → j < 24 → tS (rd h2 94) j = tS (rd h 94) j) : Inv h2 (i + 1) la fr qa ac := by
  have hl := I.hl
  have lt := fun (a : Nat) (ha : a ≤ 118) => I.lt ha
  have I0 := I
  obtain ⟨c1, c2, c3, c4, c5, c6, c7, c8, c9, c10, c11, c12, c13, c14, c15, c16, c17, c18⟩ := I
  have e225 : ∀ i, 0 ≤ i → i < 225 → rd h2 94 i = rd h 94 i := fun i _ hi => es i (Or.inl hi)
  have e2 := e225 2 (by omega) (by omega)
  have bd := c9.bd
  obtain ⟨hGS, hWL, hSq, ⟨hP1, hP2⟩, hFit, hVT⟩ := id c9
  have hB : SBd (rd h2 94) := by
    intro j j1 j2
    by_cases c : j < 225 ∨ 249 ≤ j
    · rw [es j c]; exact hGS.1.1 j j1 j2
    · have a : rd h2 94 j = tS (rd h2 94) (j - 225) := by
        rw [tS_i (by omega) (by omega)]
        congr 1
        omega
      rw [a]
      by_cases cr : (j - 225) / 3 < rd h 94 2
      · have sp := (V' ((j - 225) / 3) (by omega) cr).1
        obtain ⟨s1, s2, s3, -⟩ := sp
        by_cases m0 : (j - 225) % 3 = 0
        · rw [show j - 225 = 3 * ((j - 225) / 3) by omega]; omega
        · by_cases m1 : (j - 225) % 3 = 1
          · rw [show j - 225 = 3 * ((j - 225) / 3) + 1 by omega]; omega
          · rw [show j - 225 = 3 * ((j - 225) / 3) + 2 by omega]; omega
      · rw [eo _ (by omega) (by omega), tS_i (by omega) (by omega)]
        exact hGS.1.1 _ (by omega) (by omega)
  have ga : GA (rd h2 94) := by
    obtain ⟨g1, g2, g3, g4⟩ := GL.cg e225 hB ⟨hGS, hWL, hSq, hFit⟩
    refine ⟨g1, g2, g3, ⟨?_, fun i i1 i2 => ?_⟩, g4, VT.cg (e225 0 (by omega) (by omega)) (e225 1 (by omega) (by omega)) e2 (zC_c e225) V'⟩
    · rw [es 249 (by omega)]; exact hP1
    · rw [es 249 (by omega)] at i2
      rw [es (250 + 2 * i) (by omega), es (250 + 2 * i + 1) (by omega), e2]; exact hP2 i i1 i2
  have j97 : aJ h2 97 = aJ h 97 := g.jow (lt 97 (by omega)) (by decide)
  refine I0.step g hl ((g.dyn (lt 2 (by omega)) (by decide)).trans c6) ?_ ga z iT (c12.gr (e0 _ (by omega)) (eq _ (by decide) (by decide))) (c13.gr (e0 _ (by omega)) (e0 _ (by omega)) (e0 _ (by omega)) (eq _ (by decide) (by decide)) ?_ ?_ ?_ ?_) (c14.gr g c1 (by decide) (by decide) ?_ (eq _ (by decide) (by decide)) ?_ ?_) (c15.gr (eq _ (by decide) (by decide)) (eq _ (by decide) (by decide)) ?_ ?_ ?_ ?_) (c16.gr g c1 (by decide) (by decide) ?_ ?_ ?_ ?_ ⟨Or.inl rfl, Or.inl rfl⟩) (c17.gr ?_ ?_ ?_) (c18.same c14 g eN eS)
  · obtain ⟨⟨o0, p0, p1, tb, p3, o25, l25, p4, o26, l26⟩, H, L, N, T, P1, P2⟩ := c8
    refine ⟨⟨g.ob o0, (g.dyn o0.2 (by decide)).trans p0, (g.ptr o0.2 (by decide)).trans p1, tb.gr g (by intro k hk; unfold DynP; simp [hk]), (g.ptr o0.2 (by decide)).trans p3, g.ob o25, (g.len o25.2).trans l25, (g.ptr o0.2 (by decide)).trans p4, g.ob o26, (g.len o26.2).trans l26⟩, H.gr g (by omega), LR.cg hGS.1 e225 (L.grw H g (fun j hj => by simp; omega) (fun j hj => by simp; omega)), fun r r1 r2 => ?_, TR.cg e2 rfl (zC_c e225) T', ?_, fun i i1 i2 => ?_⟩
    · rw [g.row (H.o4).2 (by simp; omega), j97]; rw [e2] at r2; exact N r r1 r2
    · rw [g.row o0.2 (by decide), es 249 (by omega)]; exact P1
    · rw [es 249 (by omega)] at i2
      rw [g.row o25.2 (by decide), g.row o26.2 (by decide), es (250 + 2 * i) (by omega), es (250 + 2 * i + 1) (by omega)]; exact P2 i i1 i2
  all_goals first | (rw [g.row (lt _ (by decide)) (by decide)]; done) | exact g.row (lt _ (by decide)) (by decide) | exact g.jow (lt _ (by decide)) (by decide) | skip
  · obtain ⟨q1, q2, q3, q4, q5, q6, q7, q8, q9, q10, q11⟩ := c14
    simp
    omega
  · refine ⟨fun a ha => ?_, fun a ha => ?_⟩
    · simp at ha; omega
    · simp at ha; omega
end LAY
section COULD
variable {h h1 h2 : AH} {i la fr qa ac : Nat} {postV : AH → Prop} {post : AH → Int32 → Prop} {a b c d r x y n sp sq w hh u hr how one k : Int} {s t z T : Int → Int}
def lyT (s t : Int → Int) (r x y u : Int) : Int → Int := tr3 t r x y (if zC s (3 * r) = zC s (3 * r + 1) then 0 else u)
def cellS (s : Int → Int) (x y : Int) : Prop := 0 ≤ x ∧ x < s 0 ∧ 0 ≤ y ∧ y < s 1
def spOk (s t : Int → Int) (r x y u : Int) : Prop := (0 ≤ r ∧ r < s 2) ∧ cellS s x y ∧ (0 ≤ u ∧ u ≤ 1) ∧ insT s (lyT s t r x y u) (zC s) r
theorem ly_spot (hG : GA s) (h1 : 0 ≤ r) (h2 : r < s 2) (hc : cellS s x y) (hu : 0 ≤ u ∧ u ≤ 1) : Spot (lyT s t r x y u) (zC s) r := by
  have bd := hG.bd
  obtain ⟨c1, c2, c3, c4⟩ := hc
  unfold Spot lyT
  rw [tr3_0, tr3_1, tr3_2]
  refine ⟨by omega, by omega, by split <;> omega, fun q => by rw [if_pos q]⟩
theorem c_spotFor (I : Inv h i la fr qa ac) (hr1 : -2147483648 ≤ r) (hr2 : r < 2147483648) (hx : -2147483648 ≤ x) (hx' : x < 2147483648) (hy : -2147483648 ≤ y) (hy' : y < 2147483648) (hu : -2147483648 ≤ u) (hu' : u < 2147483648) :
    wp_X11_spotFor h 0 (iI r) (iI x) (iI y) (iI u) post ↔ post h (iI (iteP (spOk (rd h 94) t r x y u) (enc (lyT (rd h 94) t r x y u) r) (-1))) := by
  obtain ⟨S, M, hl, hp, H, L, T, hG, hZ⟩ := I.core
  have bd := hG.bd
  unfold wp_X11_spotFor
  simp (disch := omega) only [CSh.o0 S, CSh.o1 S, CSh.o2 S, CSh.o3 S, CSh.o26 S, CSh.o27 S, CSh.o29 S, CSh.o30 S, CSh.o31 S, CSh.o56 S, CSh.o57 S, CSh.o58 S, CSh.o62 S, CSh.o66 S, CSh.o70 S, CSh.o74 S, CSh.o75 S, CSh.o77 S, CSh.o79 S, CSh.o80 S, CSh.o81 S, CSh.o82 S, CSh.o83 S, CSh.o84 S, CSh.o85 S, CSh.o86 S, CSh.o87 S, CSh.o88 S, CSh.o53 S, CSh.o54 S, CSh.o55 S, CSh.o59 S, CSh.o60 S, CSh.o61 S, CSh.o63 S, CSh.o64 S, CSh.o65 S, CSh.o67 S, CSh.o68 S, CSh.o69 S, CSh.o71 S, CSh.o72 S, CSh.o73 S, CSh.o89 S, CSh.o90 S, CSh.o91 S, CSh.l1 S, CSh.l3 S, CSh.l27 S, CSh.l29 S, CSh.l30 S, CSh.l56 S, CSh.l57 S, CSh.l58 S, CSh.l75 S, CSh.l77 S, CSh.l79 S, CSh.l81 S, CSh.l82 S, CSh.l83 S, CSh.l84 S, CSh.l85 S, CSh.l86 S, CSh.l87 S, CSh.l88 S, CSh.l54 S, CSh.l55 S, CSh.l60 S, CSh.l61 S, CSh.l64 S, CSh.l65 S, CSh.l68 S, CSh.l69 S, CSh.l72 S, CSh.l73 S, CSh.l90 S, CSh.l91 S, CSh.p0_0 S, CSh.p0_3 S, CSh.p0_4 S, CSh.p0_5 S, CSh.p0_6 S, CSh.p0_7 S, CSh.p0_8 S, CSh.p0_9 S, CSh.p0_10 S, CSh.p0_14 S, CSh.p2_0 S, CSh.p26_0 S, CSh.p26_13 S, CSh.p26_14 S, CSh.p31_1 S, CSh.p31_3 S, CSh.p31_4 S, CSh.p62_0 S, CSh.p66_0 S, CSh.p70_0 S, CSh.p74_0 S, CSh.p74_1 S, CSh.p74_6 S, CSh.p74_7 S, CSh.p74_10 S, CSh.p80_1 S, CSh.p80_2 S, CSh.p80_3 S, CSh.p80_4 S, CSh.p80_5 S, CSh.p80_6 S, CSh.p80_7 S, CSh.p80_8 S, CSh.p53_1 S, CSh.p53_2 S, CSh.p59_1 S, CSh.p59_2 S, CSh.p63_1 S, CSh.p63_2 S, CSh.p67_1 S, CSh.p67_2 S, CSh.p71_1 S, CSh.p71_2 S, CSh.p89_1 S, CSh.p89_2 S, hp, LB.o0 H, LB.p2 H, LB.o1 H, LB.l1 H, LB.p3 H, LB.o2 H, LB.l2 H, LB.p4 H, LB.o3 H, LB.l3 H, LB.p6 H, LB.o4 H, LB.l4 H, LB.p7 H, LB.o5 H, LB.l5 H, LB.p8 H, LB.o6 H, LB.l6 H, LB.p9 H, LB.o7 H, LB.l7 H, LB.p10 H, LB.o8 H, LB.l8 H, LB.p12 H, LB.o9 H, LB.l9 H, LB.p14 H, LB.o10 H, LB.p15 H, LB.o16 H, LB.q10_1 H, LB.o11 H, LB.l11 H, LB.q10_2 H, LB.o12 H, LB.l12 H, LB.q10_3 H, LB.o13 H, LB.l13 H, LB.q10_4 H, LB.o14 H, LB.l14 H, LB.q10_5 H, LB.o15 H, LB.l15 H, LB.q16_1 H, LB.o17 H, LB.l17 H, LB.q16_2 H, LB.o18 H, LB.l18 H, LB.q16_3 H, LB.o19 H, LB.l19 H, LB.q16_4 H, LB.o20 H, LB.l20 H, -Int.reduceToNat, -Int32.reduceToNatClampNeg, il0, il1, il2, il3, il4, il5, il6, il7, il8, il9, il10, il11, il12, il13, il14, il15, il16, il17, il18, il19, il20, il21, il22, il23, il24, il25, il26, il27, il28, il29, il30, il31, il32, il35, il36, il38, il40, il42, il43, il44, il45, il46, il47, il48, il49, il50, il51, il52, il57, il59, il60, il63, il64, il75, il80, il95, il96, il97, il98, il99, il100, il120, il122, il123, il127, il128, il135, il167, il175, il225, il249, il250, il255, il256, il360, il370, il384, il600, il700, il740, il900, il940, il1024, il1600, il4800, il64000, il125000, il262143, il1000000000, iI_toInt, iI_add, iI_sub, iI_mul, iI_neg, iI_lt, iI_le, iI_eq, iI_n, iI_in, iI_div, iI_mod, iI_shm, iI_and1, iI_and7, iI_and63, iI_shr3, iI_shr6, rd_I, ob, Option.some.injEq, exists_eq_left', exists_eq_left, true_and, and_true, fqI, fqJ, eq_self, true_or, or_true, bP_0, bP_0i, npP, bP_1i, bP_b, not_true_eq_false, not_false_eq_true, false_implies, true_implies, implies_true, Classical.not_not, and_self, cP, cP', ite_n, c_isRaft I, c_hasCell H L]
  by_cases c1 : 0 ≤ r ∧ r < rd h 94 2
  case neg => rw [ite_f c1, ite_f (fun q => c1 q.1)]
  rw [ite_t c1]
  by_cases c2 : 0 ≤ x ∧ x < rd h 94 0 ∧ 0 ≤ y ∧ y < rd h 94 1
  case neg => rw [ite_f c2, ite_f (fun q => c2 q.2.1)]
  rw [ite_t c2]
  by_cases c3 : u < 0
  · rw [ite_t c3, ite_f (fun q => by have := q.2.2.1; omega)]
  rw [ite_f c3]
  by_cases c4 : u ≤ 1
  case neg => rw [ite_f c4, ite_f (fun q => by have := q.2.2.1; omega)]
  rw [ite_t c4]
  have hc : cellS (rd h 94) x y := c2
  obtain ⟨x1, x2, y1, y2⟩ := c2
  obtain ⟨r1, r2⟩ := c1
  have hSp := ly_spot (t := t) hG r1 r2 hc (u := u) (by omega)
  have en := enc_nums hSp
  obtain ⟨ew, eh⟩ := wsp_enc (EZ.c (rd h 94)) r1 (show r < 8 by omega) hSp
  obtain ⟨z0, z1, -⟩ := (EZ.c (rd h 94)).at r1 (show r < 8 by omega)
  have ee : (if rd h 94 (99 + 3 * r) = rd h 94 (99 + 3 * r + 1) then 8 * y + x else 8 * y + x + 64 * u) = enc (lyT (rd h 94) t r x y u) r := by
    unfold enc lyT
    rw [tr3_0, tr3_1, tr3_2, z0, z1]
    split <;> omega
  rw [c_spotOf H L hG.sb r1 r2 bd.2.2.1.2 (by omega) (by omega) (by omega) c4, ee]
  simp (disch := omega) only [CSh.o0 S, CSh.o1 S, CSh.o2 S, CSh.o3 S, CSh.o26 S, CSh.o27 S, CSh.o29 S, CSh.o30 S, CSh.o31 S, CSh.o56 S, CSh.o57 S, CSh.o58 S, CSh.o62 S, CSh.o66 S, CSh.o70 S, CSh.o74 S, CSh.o75 S, CSh.o77 S, CSh.o79 S, CSh.o80 S, CSh.o81 S, CSh.o82 S, CSh.o83 S, CSh.o84 S, CSh.o85 S, CSh.o86 S, CSh.o87 S, CSh.o88 S, CSh.o53 S, CSh.o54 S, CSh.o55 S, CSh.o59 S, CSh.o60 S, CSh.o61 S, CSh.o63 S, CSh.o64 S, CSh.o65 S, CSh.o67 S, CSh.o68 S, CSh.o69 S, CSh.o71 S, CSh.o72 S, CSh.o73 S, CSh.o89 S, CSh.o90 S, CSh.o91 S, CSh.l1 S, CSh.l3 S, CSh.l27 S, CSh.l29 S, CSh.l30 S, CSh.l56 S, CSh.l57 S, CSh.l58 S, CSh.l75 S, CSh.l77 S, CSh.l79 S, CSh.l81 S, CSh.l82 S, CSh.l83 S, CSh.l84 S, CSh.l85 S, CSh.l86 S, CSh.l87 S, CSh.l88 S, CSh.l54 S, CSh.l55 S, CSh.l60 S, CSh.l61 S, CSh.l64 S, CSh.l65 S, CSh.l68 S, CSh.l69 S, CSh.l72 S, CSh.l73 S, CSh.l90 S, CSh.l91 S, CSh.p0_0 S, CSh.p0_3 S, CSh.p0_4 S, CSh.p0_5 S, CSh.p0_6 S, CSh.p0_7 S, CSh.p0_8 S, CSh.p0_9 S, CSh.p0_10 S, CSh.p0_14 S, CSh.p2_0 S, CSh.p26_0 S, CSh.p26_13 S, CSh.p26_14 S, CSh.p31_1 S, CSh.p31_3 S, CSh.p31_4 S, CSh.p62_0 S, CSh.p66_0 S, CSh.p70_0 S, CSh.p74_0 S, CSh.p74_1 S, CSh.p74_6 S, CSh.p74_7 S, CSh.p74_10 S, CSh.p80_1 S, CSh.p80_2 S, CSh.p80_3 S, CSh.p80_4 S, CSh.p80_5 S, CSh.p80_6 S, CSh.p80_7 S, CSh.p80_8 S, CSh.p53_1 S, CSh.p53_2 S, CSh.p59_1 S, CSh.p59_2 S, CSh.p63_1 S, CSh.p63_2 S, CSh.p67_1 S, CSh.p67_2 S, CSh.p71_1 S, CSh.p71_2 S, CSh.p89_1 S, CSh.p89_2 S, hp, LB.o0 H, LB.p2 H, LB.o1 H, LB.l1 H, LB.p3 H, LB.o2 H, LB.l2 H, LB.p4 H, LB.o3 H, LB.l3 H, LB.p6 H, LB.o4 H, LB.l4 H, LB.p7 H, LB.o5 H, LB.l5 H, LB.p8 H, LB.o6 H, LB.l6 H, LB.p9 H, LB.o7 H, LB.l7 H, LB.p10 H, LB.o8 H, LB.l8 H, LB.p12 H, LB.o9 H, LB.l9 H, LB.p14 H, LB.o10 H, LB.p15 H, LB.o16 H, LB.q10_1 H, LB.o11 H, LB.l11 H, LB.q10_2 H, LB.o12 H, LB.l12 H, LB.q10_3 H, LB.o13 H, LB.l13 H, LB.q10_4 H, LB.o14 H, LB.l14 H, LB.q10_5 H, LB.o15 H, LB.l15 H, LB.q16_1 H, LB.o17 H, LB.l17 H, LB.q16_2 H, LB.o18 H, LB.l18 H, LB.q16_3 H, LB.o19 H, LB.l19 H, LB.q16_4 H, LB.o20 H, LB.l20 H, -Int.reduceToNat, -Int32.reduceToNatClampNeg, il0, il1, il2, il3, il4, il5, il6, il7, il8, il9, il10, il11, il12, il13, il14, il15, il16, il17, il18, il19, il20, il21, il22, il23, il24, il25, il26, il27, il28, il29, il30, il31, il32, il35, il36, il38, il40, il42, il43, il44, il45, il46, il47, il48, il49, il50, il51, il52, il57, il59, il60, il63, il64, il75, il80, il95, il96, il97, il98, il99, il100, il120, il122, il123, il127, il128, il135, il167, il175, il225, il249, il250, il255, il256, il360, il370, il384, il600, il700, il740, il900, il940, il1024, il1600, il4800, il64000, il125000, il262143, il1000000000, iI_toInt, iI_add, iI_sub, iI_mul, iI_neg, iI_lt, iI_le, iI_eq, iI_n, iI_in, iI_div, iI_mod, iI_shm, iI_and1, iI_and7, iI_and63, iI_shr3, iI_shr6, rd_I, ob, Option.some.injEq, exists_eq_left', exists_eq_left, true_and, and_true, fqI, fqJ, eq_self, true_or, or_true, bP_0, bP_0i, npP, bP_1i, bP_b, not_true_eq_false, not_false_eq_true, false_implies, true_implies, implies_true, Classical.not_not, and_self, cP, cP', ite_n, c_holds H L hG.sb hG.sd r1 r2 bd.2.2.1.2 en.1.1 en.1.2, ew, eh]
  rw [en.2.1, en.2.2.1]
  have q0 : lyT (rd h 94) t r x y u (3 * r) = x := by unfold lyT; rw [tr3_0]
  have q1 : lyT (rd h 94) t r x y u (3 * r + 1) = y := by unfold lyT; rw [tr3_1]
  by_cases ci : insT (rd h 94) (lyT (rd h 94) t r x y u) (zC (rd h 94)) r
  · rw [ite_t ⟨ci.2.2.1, ci.2.2.2⟩, ite_t ⟨⟨r1, r2⟩, hc, ⟨by omega, c4⟩, ci⟩]
  · rw [ite_f (fun q => ci ⟨by omega, by omega, q.1, q.2⟩), ite_f (fun q => ci q.2.2.2)]
/-- on another one, by masks -/
theorem cov_on {tw : Nat} (hG : GA s) (hcv : ∀ r, 0 ≤ r → r < s 2 → ∀ x y, 0 ≤ x → x < 8 → 0 ≤ y → y < 8 → (zb (aJ h (tw + 2) r.toNat) (8 * y + x) ↔ onT t (zC s) r x y)) (hV : VT s t (zC s)) (h1 : 0 ≤ r) (h2 : r < s 2) (hT : ∀ j, j < 3 * r ∨ 3 * r + 2 < j → T j = t j) (hSc : Spot T (zC s) r) (c3 : insT s T (zC s) r) :
    cvZ (wdT T (zC s) r) (hiT T (zC s) r) (enc T r % 64) &&& cbZ (aJ h (tw + 2)) r (s 2) = 0 ↔ ¬ onAnT s T (zC s) r := by
  have bd := hG.bd
  have n0 := bd.1.2
  have n1 := bd.2.1.2
  have hI8c := in8_of n0 n1 c3
  have wc := wd_Z hSc.P1 (hG.z1 h1 h2)
  have hbc : ∀ x y, 0 ≤ x → x < 8 → 0 ≤ y → y < 8 → (zb (cvZ (wdT T (zC s) r) (hiT T (zC s) r) (enc T r % 64)) (8 * y + x) ↔ onT T (zC s) r x y) := fun x y x1 x2 y1 y2 => zb_spot hSc hI8c (hG.z1 h1 h2) x1 x2 y1 y2
  have cc : ∀ o, o ≠ r → _ := fun o (ho : o ≠ r) => spot_c (s := s) (z := zC s) (t := t) (t' := T) (o := o) (hT _ (by omega)) (hT _ (by omega)) (hT _ (by omega))
  rw [z_and0']
  constructor
  · rintro q ⟨o, o1, o2, o3, o4⟩
    have hVo := hV o o1 o2
    have cc := cc o o3
    have wo := wd_Z hVo.1.P1 (hG.z1 o1 o2)
    have i8o' := cc.2.2.2.2.2.2.mpr (in8_of n0 n1 hVo.2.1)
    have oc := over_cells hI8c i8o'
    obtain ⟨⟨x, y, x1, x2, y1, y2, k1, k2⟩, -⟩ := oc.mp ⟨⟨o4.1.1, o4.1.2⟩, ⟨o4.2.1, o4.2.2⟩, by omega, by omega, by rw [cc.2.2.1]; omega, by rw [cc.2.2.2.1]; omega⟩
    refine q x y x1 x2 y1 y2 ⟨(hbc x y x1 x2 y1 y2).mpr k1, ?_⟩
    unfold cbZ
    rw [zb_cb]
    exact ⟨o, o1, by omega, o3, (hcv o o1 o2 x y x1 x2 y1 y2).mpr ((cc.2.2.2.2.2.1 x y).mp k2)⟩
  · rintro q x y x1 x2 y1 y2 ⟨k1, k2⟩
    unfold cbZ at k2
    rw [zb_cb] at k2
    obtain ⟨o, o1, o2, o3, o4⟩ := k2
    have o2' : o < s 2 := by omega
    have hVo := hV o o1 o2'
    have cc := cc o o3
    have wo := wd_Z hVo.1.P1 (hG.z1 o1 o2')
    have i8o' := cc.2.2.2.2.2.2.mpr (in8_of n0 n1 hVo.2.1)
    have oc := over_cells hI8c i8o'
    have k1' := (hbc x y x1 x2 y1 y2).mp k1
    have k2' := (cc.2.2.2.2.2.1 x y).mpr ((hcv o o1 o2' x y x1 x2 y1 y2).mp o4)
    have := oc.mpr ⟨⟨x, y, x1, x2, y1, y2, k1', k2'⟩, by omega, by omega, by rw [cc.2.2.1]; omega, by rw [cc.2.2.2.1]; omega⟩
    exact q ⟨o, o1, o2', o3, this.1, this.2.1⟩
noncomputable def cldV (s : Int → Int) (r x y u : Int) : Int32 := iteP (spOk s (tS s) r x y u) (iteP (onAnT s (lyT s (tS s) r x y u) (zC s) r ∨ farT s (lyT s (tS s) r x y u) (zC s) r) (iI 0) (foldI (bitsF (flT s (lyT s (tS s) r x y u) (zC s) r)) 24 0 (iI 0))) (iI (-1))
theorem cX_could (I : Inv h i la fr qa ac) (hr1 : -2147483648 ≤ r) (hr2 : r < 2147483648) (hx : -2147483648 ≤ x) (hx' : x < 2147483648) (hy : -2147483648 ≤ y) (hy' : y < 2147483648) (hu : -2147483648 ≤ u) (hu' : u < 2147483648)
    (k : post h (cldV (rd h 94) r x y u)) : wp_X11_could h 0 (iI r) (iI x) (iI y) (iI u) post := by
  obtain ⟨S, M, hl, hp, H, L, T, hG, hZ⟩ := I.core
  have bd := hG.bd
  obtain ⟨B, hp0, hsp, hcv⟩ := T
  unfold wp_X11_could
  unfold cldV at k
  refine ⟨S.o0, (c_spotFor (t := tS (rd h 94)) I hr1 hr2 hx hx' hy hy' hu hu').mpr ?_⟩
  by_cases c : spOk (rd h 94) (tS (rd h 94)) r x y u
  case neg =>
    rw [ite_f c]; rw [ite_f c] at k
    simp (disch := omega) only [-Int.reduceToNat, -Int32.reduceToNatClampNeg, il0, il1, il2, il3, il4, il5, il6, il7, il8, il9, il10, il11, il12, il13, il14, il15, il16, il17, il18, il19, il20, il21, il22, il23, il24, il25, il26, il27, il28, il29, il30, il31, il32, il35, il36, il38, il40, il42, il43, il44, il45, il46, il47, il48, il49, il50, il51, il52, il57, il59, il60, il63, il64, il75, il80, il95, il96, il97, il98, il99, il100, il120, il122, il123, il127, il128, il135, il167, il175, il225, il249, il250, il255, il256, il360, il370, il384, il600, il700, il740, il900, il940, il1024, il1600, il4800, il64000, il125000, il262143, il1000000000, iI_toInt, iI_add, iI_sub, iI_mul, iI_neg, iI_lt, iI_le, iI_eq, iI_n, iI_in, iI_div, iI_mod, iI_shm, iI_and1, iI_and7, iI_and63, iI_shr3, iI_shr6, rd_I, ob, Option.some.injEq, exists_eq_left', exists_eq_left, true_and, and_true, fqI, fqJ, eq_self, true_or, or_true, bP_0, bP_0i, npP, bP_1i, bP_b, not_true_eq_false, not_false_eq_true, false_implies, true_implies, implies_true, Classical.not_not, and_self, cP, cP', ite_n, ite_T, ite_F, ite_t, ite_f]
    exact k
  rw [ite_t c]; rw [ite_t c] at k
  obtain ⟨⟨r1, r2⟩, hc, hu2, ci⟩ := c
  have hSp := ly_spot (t := tS (rd h 94)) hG r1 r2 hc hu2
  have en := enc_nums hSp
  obtain ⟨ew, eh⟩ := wsp_enc (EZ.c (rd h 94)) r1 (show r < 8 by omega) hSp
  have hon := cov_on (tw := 53) (T := lyT (rd h 94) (tS (rd h 94)) r x y u) hG hcv hG.vt r1 r2 (fun j hj => tr3_n hj) hSp ci
  have fl : foldI (bitsF (fits (rd h 94) (cvZ (wdT (lyT (rd h 94) (tS (rd h 94)) r x y u) (zC (rd h 94)) r) (hiT (lyT (rd h 94) (tS (rd h 94)) r x y u) (zC (rd h 94)) r) (enc (lyT (rd h 94) (tS (rd h 94)) r x y u) r % 64)) r)) 24 0 (iI 0) = foldI (bitsF (flT (rd h 94) (lyT (rd h 94) (tS (rd h 94)) r x y u) (zC (rd h 94)) r)) 24 0 (iI 0) := foldI_c _ _ _ fun j b j1 j2 => by
    unfold bitsF
    exact ite_c (fits_fl hG.sd hG.sb bd.1.2 bd.2.1.2 bd.2.2.1.2 (EZ.c _) r1 r2 j1 (by omega) hSp.P1 ci (fun x y x1 x2 y1 y2 => zb_spot hSp (in8_of bd.1.2 bd.2.1.2 ci) (hG.z1 r1 r2) x1 x2 y1 y2))
  have rr := c_ropesReach (T := lyT (rd h 94) (tS (rd h 94)) r x y u) (tw := 53) (post := fun hv13 iv14 => iteP (iv14 = iI 0) (post hv13 (iI 0)) (ob hv13 0 10 ∧ ∃ rv15, aP hv13 0 5 = some rv15 ∧ ob hv13 rv15 5 ∧ ∃ rv16, aP hv13 rv15 0 = some rv16 ∧ ob hv13 rv16 1 ∧ wp_X1_hoursCarrying hv13 rv16 (iI r) (cvZ (wdT (lyT (rd h 94) (tS (rd h 94)) r x y u) (zC (rd h 94)) r) (hiT (lyT (rd h 94) (tS (rd h 94)) r x y u) (zC (rd h 94)) r) (enc (lyT (rd h 94) (tS (rd h 94)) r x y u) r % 64)) post)) H L B hp0 hG.1 (EZ.c _) r1 r2 hSp (fun o o1 o2 o3 => by
    have cc := spot_c (s := rd h 94) (z := zC (rd h 94)) (t := tS (rd h 94)) (t' := lyT (rd h 94) (tS (rd h 94)) r x y u) (o := o) (tr3_n (by omega)) (tr3_n (by omega)) (tr3_n (by omega))
    exact ⟨by rw [cc.2.1]; exact hsp o o1 o2, cc.1.mpr (hG.vt o o1 o2).1⟩)
  simp (disch := omega) only [CSh.o0 S, CSh.o1 S, CSh.o2 S, CSh.o3 S, CSh.o26 S, CSh.o27 S, CSh.o29 S, CSh.o30 S, CSh.o31 S, CSh.o56 S, CSh.o57 S, CSh.o58 S, CSh.o62 S, CSh.o66 S, CSh.o70 S, CSh.o74 S, CSh.o75 S, CSh.o77 S, CSh.o79 S, CSh.o80 S, CSh.o81 S, CSh.o82 S, CSh.o83 S, CSh.o84 S, CSh.o85 S, CSh.o86 S, CSh.o87 S, CSh.o88 S, CSh.o53 S, CSh.o54 S, CSh.o55 S, CSh.o59 S, CSh.o60 S, CSh.o61 S, CSh.o63 S, CSh.o64 S, CSh.o65 S, CSh.o67 S, CSh.o68 S, CSh.o69 S, CSh.o71 S, CSh.o72 S, CSh.o73 S, CSh.o89 S, CSh.o90 S, CSh.o91 S, CSh.l1 S, CSh.l3 S, CSh.l27 S, CSh.l29 S, CSh.l30 S, CSh.l56 S, CSh.l57 S, CSh.l58 S, CSh.l75 S, CSh.l77 S, CSh.l79 S, CSh.l81 S, CSh.l82 S, CSh.l83 S, CSh.l84 S, CSh.l85 S, CSh.l86 S, CSh.l87 S, CSh.l88 S, CSh.l54 S, CSh.l55 S, CSh.l60 S, CSh.l61 S, CSh.l64 S, CSh.l65 S, CSh.l68 S, CSh.l69 S, CSh.l72 S, CSh.l73 S, CSh.l90 S, CSh.l91 S, CSh.p0_0 S, CSh.p0_3 S, CSh.p0_4 S, CSh.p0_5 S, CSh.p0_6 S, CSh.p0_7 S, CSh.p0_8 S, CSh.p0_9 S, CSh.p0_10 S, CSh.p0_14 S, CSh.p2_0 S, CSh.p26_0 S, CSh.p26_13 S, CSh.p26_14 S, CSh.p31_1 S, CSh.p31_3 S, CSh.p31_4 S, CSh.p62_0 S, CSh.p66_0 S, CSh.p70_0 S, CSh.p74_0 S, CSh.p74_1 S, CSh.p74_6 S, CSh.p74_7 S, CSh.p74_10 S, CSh.p80_1 S, CSh.p80_2 S, CSh.p80_3 S, CSh.p80_4 S, CSh.p80_5 S, CSh.p80_6 S, CSh.p80_7 S, CSh.p80_8 S, CSh.p53_1 S, CSh.p53_2 S, CSh.p59_1 S, CSh.p59_2 S, CSh.p63_1 S, CSh.p63_2 S, CSh.p67_1 S, CSh.p67_2 S, CSh.p71_1 S, CSh.p71_2 S, CSh.p89_1 S, CSh.p89_2 S, hp, LB.o0 H, LB.p2 H, LB.o1 H, LB.l1 H, LB.p3 H, LB.o2 H, LB.l2 H, LB.p4 H, LB.o3 H, LB.l3 H, LB.p6 H, LB.o4 H, LB.l4 H, LB.p7 H, LB.o5 H, LB.l5 H, LB.p8 H, LB.o6 H, LB.l6 H, LB.p9 H, LB.o7 H, LB.l7 H, LB.p10 H, LB.o8 H, LB.l8 H, LB.p12 H, LB.o9 H, LB.l9 H, LB.p14 H, LB.o10 H, LB.p15 H, LB.o16 H, LB.q10_1 H, LB.o11 H, LB.l11 H, LB.q10_2 H, LB.o12 H, LB.l12 H, LB.q10_3 H, LB.o13 H, LB.l13 H, LB.q10_4 H, LB.o14 H, LB.l14 H, LB.q10_5 H, LB.o15 H, LB.l15 H, LB.q16_1 H, LB.o17 H, LB.l17 H, LB.q16_2 H, LB.o18 H, LB.l18 H, LB.q16_3 H, LB.o19 H, LB.l19 H, LB.q16_4 H, LB.o20 H, LB.l20 H, -Int.reduceToNat, -Int32.reduceToNatClampNeg, il0, il1, il2, il3, il4, il5, il6, il7, il8, il9, il10, il11, il12, il13, il14, il15, il16, il17, il18, il19, il20, il21, il22, il23, il24, il25, il26, il27, il28, il29, il30, il31, il32, il35, il36, il38, il40, il42, il43, il44, il45, il46, il47, il48, il49, il50, il51, il52, il57, il59, il60, il63, il64, il75, il80, il95, il96, il97, il98, il99, il100, il120, il122, il123, il127, il128, il135, il167, il175, il225, il249, il250, il255, il256, il360, il370, il384, il600, il700, il740, il900, il940, il1024, il1600, il4800, il64000, il125000, il262143, il1000000000, iI_toInt, iI_add, iI_sub, iI_mul, iI_neg, iI_lt, iI_le, iI_eq, iI_n, iI_in, iI_div, iI_mod, iI_shm, iI_and1, iI_and7, iI_and63, iI_shr3, iI_shr6, rd_I, lgc, z_bit, ob, Option.some.injEq, exists_eq_left', exists_eq_left, true_and, and_true, fqI, fqJ, eq_self, true_or, or_true, bP_0, bP_0i, npP, bP_1i, bP_b, not_true_eq_false, not_false_eq_true, false_implies, true_implies, implies_true, Classical.not_not, and_self, cP, cP', ite_n, ite_t, c_coverAt H L hG.sd r1 r2 bd.2.2.1.2 en.1.1 en.1.2, ew, eh, c_coveredBut H L B hp0 bd.2.2.1, hon]
  by_cases c4 : onAnT (rd h 94) (lyT (rd h 94) (tS (rd h 94)) r x y u) (zC (rd h 94)) r
  · rw [ite_t c4]; rw [ite_t (Or.inl c4)] at k; exact k
  rw [ite_f c4]
  refine Eq.mpr ?_ (rr.mpr ?_)
  · rfl
  · rw [bP_0i, Classical.not_not]
    by_cases c5 : farT (rd h 94) (lyT (rd h 94) (tS (rd h 94)) r x y u) (zC (rd h 94)) r
    · rw [ite_t c5]; rw [ite_t (Or.inr c5)] at k; exact k
    · rw [ite_f c5]; rw [ite_f (fun q => q.elim c4 c5)] at k
      simp (disch := omega) only [CSh.o0 S, CSh.o1 S, CSh.o2 S, CSh.o3 S, CSh.o26 S, CSh.o27 S, CSh.o29 S, CSh.o30 S, CSh.o31 S, CSh.o56 S, CSh.o57 S, CSh.o58 S, CSh.o62 S, CSh.o66 S, CSh.o70 S, CSh.o74 S, CSh.o75 S, CSh.o77 S, CSh.o79 S, CSh.o80 S, CSh.o81 S, CSh.o82 S, CSh.o83 S, CSh.o84 S, CSh.o85 S, CSh.o86 S, CSh.o87 S, CSh.o88 S, CSh.o53 S, CSh.o54 S, CSh.o55 S, CSh.o59 S, CSh.o60 S, CSh.o61 S, CSh.o63 S, CSh.o64 S, CSh.o65 S, CSh.o67 S, CSh.o68 S, CSh.o69 S, CSh.o71 S, CSh.o72 S, CSh.o73 S, CSh.o89 S, CSh.o90 S, CSh.o91 S, CSh.l1 S, CSh.l3 S, CSh.l27 S, CSh.l29 S, CSh.l30 S, CSh.l56 S, CSh.l57 S, CSh.l58 S, CSh.l75 S, CSh.l77 S, CSh.l79 S, CSh.l81 S, CSh.l82 S, CSh.l83 S, CSh.l84 S, CSh.l85 S, CSh.l86 S, CSh.l87 S, CSh.l88 S, CSh.l54 S, CSh.l55 S, CSh.l60 S, CSh.l61 S, CSh.l64 S, CSh.l65 S, CSh.l68 S, CSh.l69 S, CSh.l72 S, CSh.l73 S, CSh.l90 S, CSh.l91 S, CSh.p0_0 S, CSh.p0_3 S, CSh.p0_4 S, CSh.p0_5 S, CSh.p0_6 S, CSh.p0_7 S, CSh.p0_8 S, CSh.p0_9 S, CSh.p0_10 S, CSh.p0_14 S, CSh.p2_0 S, CSh.p26_0 S, CSh.p26_13 S, CSh.p26_14 S, CSh.p31_1 S, CSh.p31_3 S, CSh.p31_4 S, CSh.p62_0 S, CSh.p66_0 S, CSh.p70_0 S, CSh.p74_0 S, CSh.p74_1 S, CSh.p74_6 S, CSh.p74_7 S, CSh.p74_10 S, CSh.p80_1 S, CSh.p80_2 S, CSh.p80_3 S, CSh.p80_4 S, CSh.p80_5 S, CSh.p80_6 S, CSh.p80_7 S, CSh.p80_8 S, CSh.p53_1 S, CSh.p53_2 S, CSh.p59_1 S, CSh.p59_2 S, CSh.p63_1 S, CSh.p63_2 S, CSh.p67_1 S, CSh.p67_2 S, CSh.p71_1 S, CSh.p71_2 S, CSh.p89_1 S, CSh.p89_2 S, hp, LB.o0 H, LB.p2 H, LB.o1 H, LB.l1 H, LB.p3 H, LB.o2 H, LB.l2 H, LB.p4 H, LB.o3 H, LB.l3 H, LB.p6 H, LB.o4 H, LB.l4 H, LB.p7 H, LB.o5 H, LB.l5 H, LB.p8 H, LB.o6 H, LB.l6 H, LB.p9 H, LB.o7 H, LB.l7 H, LB.p10 H, LB.o8 H, LB.l8 H, LB.p12 H, LB.o9 H, LB.l9 H, LB.p14 H, LB.o10 H, LB.p15 H, LB.o16 H, LB.q10_1 H, LB.o11 H, LB.l11 H, LB.q10_2 H, LB.o12 H, LB.l12 H, LB.q10_3 H, LB.o13 H, LB.l13 H, LB.q10_4 H, LB.o14 H, LB.l14 H, LB.q10_5 H, LB.o15 H, LB.l15 H, LB.q16_1 H, LB.o17 H, LB.l17 H, LB.q16_2 H, LB.o18 H, LB.l18 H, LB.q16_3 H, LB.o19 H, LB.l19 H, LB.q16_4 H, LB.o20 H, LB.l20 H, -Int.reduceToNat, -Int32.reduceToNatClampNeg, il0, il1, il2, il3, il4, il5, il6, il7, il8, il9, il10, il11, il12, il13, il14, il15, il16, il17, il18, il19, il20, il21, il22, il23, il24, il25, il26, il27, il28, il29, il30, il31, il32, il35, il36, il38, il40, il42, il43, il44, il45, il46, il47, il48, il49, il50, il51, il52, il57, il59, il60, il63, il64, il75, il80, il95, il96, il97, il98, il99, il100, il120, il122, il123, il127, il128, il135, il167, il175, il225, il249, il250, il255, il256, il360, il370, il384, il600, il700, il740, il900, il940, il1024, il1600, il4800, il64000, il125000, il262143, il1000000000, iI_toInt, iI_add, iI_sub, iI_mul, iI_neg, iI_lt, iI_le, iI_eq, iI_n, iI_in, iI_div, iI_mod, iI_shm, iI_and1, iI_and7, iI_and63, iI_shr3, iI_shr6, rd_I, lgc, z_bit, ob, Option.some.injEq, exists_eq_left', exists_eq_left, true_and, and_true, fqI, fqJ, eq_self, true_or, or_true, bP_0, bP_0i, npP, bP_1i, bP_b, not_true_eq_false, not_false_eq_true, false_implies, true_implies, implies_true, Classical.not_not, and_self, c_hoursCarrying H L hG.sb hG.sd bd.2.2.1.2 r1 r2, fl]
      exact k
theorem m_lays (M : MSh h) (hG : GA (rd h 94)) (e100 : rd h 100 = zC (rd h 94)) (h1 : 0 ≤ r) (h2 : r < rd h 94 2) (hc : cellS (rd h 94) x y) (hu : 0 ≤ u ∧ u ≤ 1)
    (k : ∀ h', Fr [99] [] [] h h' → rd h' 99 = lyT (rd h 94) (rd h 99) r x y u → post h' (bP (insT (rd h 94) (lyT (rd h 94) (rd h 99) r x y u) (zC (rd h 94)) r))) : wp_X12_lays h 92 (iI r) (iI x) (iI y) (iI u) post := by
  have bd := hG.bd
  have hSp := ly_spot (t := rd h 99) hG h1 h2 hc hu
  have z1 := hG.sb (99 + 3 * r) (by omega) (by omega)
  have z2 := hG.sb (99 + 3 * r + 1) (by omega) (by omega)
  obtain ⟨c1, c2, c3, c4⟩ := hc
  unfold wp_X12_lays wb_X12_lays_56
  simp (disch := omega) only [MSh.o0 M, MSh.p1 M, MSh.o1 M, MSh.l1 M, MSh.p6 M, MSh.o2 M, MSh.l2 M, MSh.p7 M, MSh.o3 M, MSh.l3 M, MSh.p8 M, MSh.o4 M, MSh.l4 M, MSh.p9 M, MSh.o5 M, MSh.l5 M, MSh.p10 M, MSh.o6 M, MSh.l6 M, MSh.p24 M, MSh.o7 M, MSh.l7 M, MSh.p25 M, MSh.o8 M, MSh.l8 M, MSh.p26 M, MSh.o9 M, MSh.l9 M, MSh.p32 M, MSh.o10 M, MSh.l10 M, MSh.p33 M, MSh.o11 M, MSh.l11 M, MSh.p35 M, MSh.o12 M, MSh.l12 M, MSh.p36 M, MSh.o13 M, MSh.l13 M, MSh.p37 M, MSh.o14 M, MSh.l14 M, MSh.p38 M, MSh.o15 M, MSh.l15 M, MSh.p39 M, MSh.o16 M, MSh.l16 M, MSh.p42 M, MSh.o17 M, MSh.l17 M, MSh.p43 M, MSh.o18 M, MSh.l18 M, MSh.p44 M, MSh.o19 M, MSh.l19 M, MSh.p45 M, MSh.o20 M, MSh.l20 M, MSh.p46 M, MSh.o21 M, MSh.l21 M, MSh.p47 M, MSh.o22 M, MSh.l22 M, MSh.p50 M, MSh.o23 M, MSh.l23 M, MSh.p51 M, MSh.o24 M, MSh.l24 M, MSh.p52 M, MSh.o25 M, MSh.l25 M, -Int.reduceToNat, -Int32.reduceToNatClampNeg, il0, il1, il2, il3, il4, il5, il6, il7, il8, il9, il10, il11, il12, il13, il14, il15, il16, il17, il18, il19, il20, il21, il22, il23, il24, il25, il26, il27, il28, il29, il30, il31, il32, il35, il36, il38, il40, il42, il43, il44, il45, il46, il47, il48, il49, il50, il51, il52, il57, il59, il60, il63, il64, il75, il80, il95, il96, il97, il98, il99, il100, il120, il122, il123, il127, il128, il135, il167, il175, il225, il249, il250, il255, il256, il360, il370, il384, il600, il700, il740, il900, il940, il1024, il1600, il4800, il64000, il125000, il262143, il1000000000, iI_toInt, iI_add, iI_sub, iI_mul, iI_neg, iI_lt, iI_le, iI_eq, iI_n, iI_in, iI_div, iI_mod, iI_shm, iI_and1, iI_and7, iI_and63, iI_shr3, iI_shr6, rd_I, ob, Option.some.injEq, exists_eq_left', exists_eq_left, true_and, and_true, fqI, fqJ, eq_self, true_or, or_true, bP_0, bP_0i, npP, bP_1i, bP_b, not_true_eq_false, not_false_eq_true, false_implies, true_implies, implies_true, Classical.not_not, and_self]
  intro ha ea
  obtain ⟨fa, ra⟩ := wI (by omega) (by omega) (by omega) ea
  have Ma := M.fr fa
  simp (disch := omega) only [MSh.o0 Ma, MSh.p1 Ma, MSh.o1 Ma, MSh.l1 Ma, MSh.p6 Ma, MSh.o2 Ma, MSh.l2 Ma, MSh.p7 Ma, MSh.o3 Ma, MSh.l3 Ma, MSh.p8 Ma, MSh.o4 Ma, MSh.l4 Ma, MSh.p9 Ma, MSh.o5 Ma, MSh.l5 Ma, MSh.p10 Ma, MSh.o6 Ma, MSh.l6 Ma, MSh.p24 Ma, MSh.o7 Ma, MSh.l7 Ma, MSh.p25 Ma, MSh.o8 Ma, MSh.l8 Ma, MSh.p26 Ma, MSh.o9 Ma, MSh.l9 Ma, MSh.p32 Ma, MSh.o10 Ma, MSh.l10 Ma, MSh.p33 Ma, MSh.o11 Ma, MSh.l11 Ma, MSh.p35 Ma, MSh.o12 Ma, MSh.l12 Ma, MSh.p36 Ma, MSh.o13 Ma, MSh.l13 Ma, MSh.p37 Ma, MSh.o14 Ma, MSh.l14 Ma, MSh.p38 Ma, MSh.o15 Ma, MSh.l15 Ma, MSh.p39 Ma, MSh.o16 Ma, MSh.l16 Ma, MSh.p42 Ma, MSh.o17 Ma, MSh.l17 Ma, MSh.p43 Ma, MSh.o18 Ma, MSh.l18 Ma, MSh.p44 Ma, MSh.o19 Ma, MSh.l19 Ma, MSh.p45 Ma, MSh.o20 Ma, MSh.l20 Ma, MSh.p46 Ma, MSh.o21 Ma, MSh.l21 Ma, MSh.p47 Ma, MSh.o22 Ma, MSh.l22 Ma, MSh.p50 Ma, MSh.o23 Ma, MSh.l23 Ma, MSh.p51 Ma, MSh.o24 Ma, MSh.l24 Ma, MSh.p52 Ma, MSh.o25 Ma, MSh.l25 Ma, -Int.reduceToNat, -Int32.reduceToNatClampNeg, il0, il1, il2, il3, il4, il5, il6, il7, il8, il9, il10, il11, il12, il13, il14, il15, il16, il17, il18, il19, il20, il21, il22, il23, il24, il25, il26, il27, il28, il29, il30, il31, il32, il35, il36, il38, il40, il42, il43, il44, il45, il46, il47, il48, il49, il50, il51, il52, il57, il59, il60, il63, il64, il75, il80, il95, il96, il97, il98, il99, il100, il120, il122, il123, il127, il128, il135, il167, il175, il225, il249, il250, il255, il256, il360, il370, il384, il600, il700, il740, il900, il940, il1024, il1600, il4800, il64000, il125000, il262143, il1000000000, iI_toInt, iI_add, iI_sub, iI_mul, iI_neg, iI_lt, iI_le, iI_eq, iI_n, iI_in, iI_div, iI_mod, iI_shm, iI_and1, iI_and7, iI_and63, iI_shr3, iI_shr6, rd_I, ob, Option.some.injEq, exists_eq_left', exists_eq_left, true_and, and_true, fqI, fqJ, eq_self, true_or, or_true, bP_0, bP_0i, npP, bP_1i, bP_b, not_true_eq_false, not_false_eq_true, false_implies, true_implies, implies_true, Classical.not_not, and_self]
  intro hb eb
  obtain ⟨fb, rb⟩ := wI (by omega) (by omega) (by omega) eb
  have Mb := Ma.fr fb
  have b100 : rd hb 100 = zC (rd h 94) := by rw [fb.row (by decide), fa.row (by decide), e100]
  obtain ⟨q0, q1, -⟩ := (EZ.c (rd h 94)).at h1 (show r < 8 by omega)
  have b1 : rd hb 100 (3 * r) = rd h 94 (99 + 3 * r) := by rw [b100, q0]
  have b2 : rd hb 100 (3 * r + 1) = rd h 94 (99 + 3 * r + 1) := by rw [b100, q1]
  have fin : ∀ v : Int, v = (if zC (rd h 94) (3 * r) = zC (rd h 94) (3 * r + 1) then 0 else u) → ∀ hd, hd = hI hb 99 (3 * r + 2).toNat (iI v) → ob hd 92 11 ∧ wp_X12_isInside hd 92 (iI r) fun hv2 iv3 => (iv3 = iI 0 ∨ iv3 = iI 1) ∧ post hv2 iv3 := by
    intro v ev hd ed
    have vb : 0 ≤ v ∧ v ≤ 1 := by rw [ev]; split <;> omega
    obtain ⟨fd, rd'⟩ := wI (by omega) (by omega) (by omega) ed
    have Md := Mb.fr fd
    have e99 : rd hd 99 = lyT (rd h 94) (rd h 99) r x y u := by
      rw [rd', rb, ra, ev]
      rfl
    have d94 : rd hd 94 = rd h 94 := by rw [fd.row (by decide), fb.row (by decide), fa.row (by decide)]
    have d100 : rd hd 100 = zC (rd h 94) := by rw [fd.row (by decide), b100]
    refine ⟨Md.o0, ?_⟩
    rw [m_isInside Md h1 (by omega) (by rw [e99, d100]; exact RBd.of hSp.P1 (hG.z1 h1 h2)) (by rw [d94]; omega) (by rw [d94]; omega) (by rw [d94]; omega) (by rw [d94]; omega), d94, e99, d100]
    refine ⟨by rw [bP_b]; trivial, k hd (fa.trans (fb.trans fd)) e99⟩
  simp (disch := omega) only [MSh.o0 Mb, MSh.p1 Mb, MSh.o1 Mb, MSh.l1 Mb, MSh.p6 Mb, MSh.o2 Mb, MSh.l2 Mb, MSh.p7 Mb, MSh.o3 Mb, MSh.l3 Mb, MSh.p8 Mb, MSh.o4 Mb, MSh.l4 Mb, MSh.p9 Mb, MSh.o5 Mb, MSh.l5 Mb, MSh.p10 Mb, MSh.o6 Mb, MSh.l6 Mb, MSh.p24 Mb, MSh.o7 Mb, MSh.l7 Mb, MSh.p25 Mb, MSh.o8 Mb, MSh.l8 Mb, MSh.p26 Mb, MSh.o9 Mb, MSh.l9 Mb, MSh.p32 Mb, MSh.o10 Mb, MSh.l10 Mb, MSh.p33 Mb, MSh.o11 Mb, MSh.l11 Mb, MSh.p35 Mb, MSh.o12 Mb, MSh.l12 Mb, MSh.p36 Mb, MSh.o13 Mb, MSh.l13 Mb, MSh.p37 Mb, MSh.o14 Mb, MSh.l14 Mb, MSh.p38 Mb, MSh.o15 Mb, MSh.l15 Mb, MSh.p39 Mb, MSh.o16 Mb, MSh.l16 Mb, MSh.p42 Mb, MSh.o17 Mb, MSh.l17 Mb, MSh.p43 Mb, MSh.o18 Mb, MSh.l18 Mb, MSh.p44 Mb, MSh.o19 Mb, MSh.l19 Mb, MSh.p45 Mb, MSh.o20 Mb, MSh.l20 Mb, MSh.p46 Mb, MSh.o21 Mb, MSh.l21 Mb, MSh.p47 Mb, MSh.o22 Mb, MSh.l22 Mb, MSh.p50 Mb, MSh.o23 Mb, MSh.l23 Mb, MSh.p51 Mb, MSh.o24 Mb, MSh.l24 Mb, MSh.p52 Mb, MSh.o25 Mb, MSh.l25 Mb, -Int.reduceToNat, -Int32.reduceToNatClampNeg, il0, il1, il2, il3, il4, il5, il6, il7, il8, il9, il10, il11, il12, il13, il14, il15, il16, il17, il18, il19, il20, il21, il22, il23, il24, il25, il26, il27, il28, il29, il30, il31, il32, il35, il36, il38, il40, il42, il43, il44, il45, il46, il47, il48, il49, il50, il51, il52, il57, il59, il60, il63, il64, il75, il80, il95, il96, il97, il98, il99, il100, il120, il122, il123, il127, il128, il135, il167, il175, il225, il249, il250, il255, il256, il360, il370, il384, il600, il700, il740, il900, il940, il1024, il1600, il4800, il64000, il125000, il262143, il1000000000, iI_toInt, iI_add, iI_sub, iI_mul, iI_neg, iI_lt, iI_le, iI_eq, iI_n, iI_in, iI_div, iI_mod, iI_shm, iI_and1, iI_and7, iI_and63, iI_shr3, iI_shr6, rd_I, ob, Option.some.injEq, exists_eq_left', exists_eq_left, true_and, and_true, fqI, fqJ, eq_self, true_or, or_true, bP_0, bP_0i, npP, bP_1i, bP_b, not_true_eq_false, not_false_eq_true, false_implies, true_implies, implies_true, Classical.not_not, and_self, cP, cP', ite_n, b1, b2]
  by_cases cz : rd h 94 (99 + 3 * r) = rd h 94 (99 + 3 * r + 1)
  · rw [ite_t cz]
    exact fin 0 (by rw [q0, q1, if_pos cz])
  · rw [ite_f cz]
    exact fin u (by rw [q0, q1, if_neg cz])
theorem mX_could (I : Inv h i la fr qa ac) (hr1 : -2147483648 ≤ r) (hr2 : r < 2147483648) (hx : -2147483648 ≤ x) (hx' : x < 2147483648) (hy : -2147483648 ≤ y) (hy' : y < 2147483648) (hu : -2147483648 ≤ u) (hu' : u < 2147483648)
    (k : ∀ h', Qt h h' → post h' (cldV (rd h 94) r x y u)) : wp_X12_could h 92 (iI r) (iI x) (iI y) (iI u) post := by
  unfold wp_X12_could wb_X12_could_68
  refine ⟨I.m.o0, fun h1 e1 => ?_⟩
  obtain ⟨I1, q1, es, -⟩ := I.thr e1
  rw [← es] at k
  have M := I1.m
  have hG := I1.ga
  have bd := hG.bd
  unfold cldV at k
  simp (disch := omega) only [MSh.o0 M, MSh.p1 M, MSh.o1 M, MSh.l1 M, MSh.p6 M, MSh.o2 M, MSh.l2 M, MSh.p7 M, MSh.o3 M, MSh.l3 M, MSh.p8 M, MSh.o4 M, MSh.l4 M, MSh.p9 M, MSh.o5 M, MSh.l5 M, MSh.p10 M, MSh.o6 M, MSh.l6 M, MSh.p24 M, MSh.o7 M, MSh.l7 M, MSh.p25 M, MSh.o8 M, MSh.l8 M, MSh.p26 M, MSh.o9 M, MSh.l9 M, MSh.p32 M, MSh.o10 M, MSh.l10 M, MSh.p33 M, MSh.o11 M, MSh.l11 M, MSh.p35 M, MSh.o12 M, MSh.l12 M, MSh.p36 M, MSh.o13 M, MSh.l13 M, MSh.p37 M, MSh.o14 M, MSh.l14 M, MSh.p38 M, MSh.o15 M, MSh.l15 M, MSh.p39 M, MSh.o16 M, MSh.l16 M, MSh.p42 M, MSh.o17 M, MSh.l17 M, MSh.p43 M, MSh.o18 M, MSh.l18 M, MSh.p44 M, MSh.o19 M, MSh.l19 M, MSh.p45 M, MSh.o20 M, MSh.l20 M, MSh.p46 M, MSh.o21 M, MSh.l21 M, MSh.p47 M, MSh.o22 M, MSh.l22 M, MSh.p50 M, MSh.o23 M, MSh.l23 M, MSh.p51 M, MSh.o24 M, MSh.l24 M, MSh.p52 M, MSh.o25 M, MSh.l25 M, -Int.reduceToNat, -Int32.reduceToNatClampNeg, il0, il1, il2, il3, il4, il5, il6, il7, il8, il9, il10, il11, il12, il13, il14, il15, il16, il17, il18, il19, il20, il21, il22, il23, il24, il25, il26, il27, il28, il29, il30, il31, il32, il35, il36, il38, il40, il42, il43, il44, il45, il46, il47, il48, il49, il50, il51, il52, il57, il59, il60, il63, il64, il75, il80, il95, il96, il97, il98, il99, il100, il120, il122, il123, il127, il128, il135, il167, il175, il225, il249, il250, il255, il256, il360, il370, il384, il600, il700, il740, il900, il940, il1024, il1600, il4800, il64000, il125000, il262143, il1000000000, iI_toInt, iI_add, iI_sub, iI_mul, iI_neg, iI_lt, iI_le, iI_eq, iI_n, iI_in, iI_div, iI_mod, iI_shm, iI_and1, iI_and7, iI_and63, iI_shr3, iI_shr6, rd_I, ob, Option.some.injEq, exists_eq_left', exists_eq_left, true_and, and_true, fqI, fqJ, eq_self, true_or, or_true, bP_0, bP_0i, npP, bP_1i, bP_b, not_true_eq_false, not_false_eq_true, false_implies, true_implies, implies_true, Classical.not_not, and_self, cP, cP', ite_n, m_isRaft M, m_isCell M, m_isIn]
  by_cases c1 : 0 ≤ r ∧ r < rd h1 94 2
  case neg => rw [ite_f c1]; rw [ite_f (fun q => c1 q.1)] at k; exact k h1 q1
  rw [ite_t c1]
  by_cases c2 : 0 ≤ x ∧ x < rd h1 94 0 ∧ 0 ≤ y ∧ y < rd h1 94 1
  case neg => rw [ite_f c2]; rw [ite_f (fun q => c2 q.2.1)] at k; exact k h1 q1
  rw [ite_t c2]
  by_cases c3 : 0 ≤ u ∧ u ≤ 1
  case neg => rw [ite_f c3]; rw [ite_f (fun q => c3 q.2.2.1)] at k; exact k h1 q1
  rw [ite_t c3]
  refine m_as I1 fun h2 q2 I2 e94 e99 e100 => ?_
  rw [← e94] at k e99 e100 hG bd c1
  have hc : cellS (rd h2 94) x y := by rw [e94]; exact c2
  have M2 := I2.m
  refine ⟨M2.o0, m_lays M2 hG e100 c1.1 c1.2 hc c3 fun h3 f3 e3 => ?_⟩
  rw [e99] at e3 ⊢
  have q3 : Qt h2 h3 := ⟨f3.mono (by simp) (by simp) (by simp), fun j _ => by rw [f3.row (by decide)], by
    have z := I2.z
    unfold Z24
    refine ⟨fun j hj => ?_, ?_⟩
    · rw [e3]
      unfold lyT
      rw [tr3_n (by omega)]
      exact if_neg (by omega)
    · rw [f3.row (by decide)]; exact z.2⟩
  have M3 := M2.fr f3
  have k3 := k h3 (q1.trans (q2.trans q3))
  have d94 : rd h3 94 = rd h2 94 := f3.row (by decide)
  have d100 : rd h3 100 = zC (rd h2 94) := by rw [f3.row (by decide), e100]
  by_cases ci : insT (rd h2 94) (lyT (rd h2 94) (tS (rd h2 94)) r x y u) (zC (rd h2 94)) r
  case neg =>
    rw [bP_f ci]; rw [ite_f (fun q => ci q.2.2.2)] at k3
    simp (disch := omega) only [-Int.reduceToNat, -Int32.reduceToNatClampNeg, il0, il1, il2, il3, il4, il5, il6, il7, il8, il9, il10, il11, il12, il13, il14, il15, il16, il17, il18, il19, il20, il21, il22, il23, il24, il25, il26, il27, il28, il29, il30, il31, il32, il35, il36, il38, il40, il42, il43, il44, il45, il46, il47, il48, il49, il50, il51, il52, il57, il59, il60, il63, il64, il75, il80, il95, il96, il97, il98, il99, il100, il120, il122, il123, il127, il128, il135, il167, il175, il225, il249, il250, il255, il256, il360, il370, il384, il600, il700, il740, il900, il940, il1024, il1600, il4800, il64000, il125000, il262143, il1000000000, iI_toInt, iI_add, iI_sub, iI_mul, iI_neg, iI_lt, iI_le, iI_eq, iI_n, iI_in, iI_div, iI_mod, iI_shm, iI_and1, iI_and7, iI_and63, iI_shr3, iI_shr6, rd_I, ob, Option.some.injEq, exists_eq_left', exists_eq_left, true_and, and_true, fqI, fqJ, eq_self, true_or, or_true, bP_0, bP_0i, npP, bP_1i, bP_b, not_true_eq_false, not_false_eq_true, false_implies, true_implies, implies_true, Classical.not_not, and_self, cP, cP', ite_n, ite_T, ite_F, ite_t, ite_f]
    exact k3
  rw [bP_t ci]; rw [ite_t ⟨c1, hc, c3, ci⟩] at k3
  simp (disch := omega) only [MSh.o0 M3, MSh.p1 M3, MSh.o1 M3, MSh.l1 M3, MSh.p6 M3, MSh.o2 M3, MSh.l2 M3, MSh.p7 M3, MSh.o3 M3, MSh.l3 M3, MSh.p8 M3, MSh.o4 M3, MSh.l4 M3, MSh.p9 M3, MSh.o5 M3, MSh.l5 M3, MSh.p10 M3, MSh.o6 M3, MSh.l6 M3, MSh.p24 M3, MSh.o7 M3, MSh.l7 M3, MSh.p25 M3, MSh.o8 M3, MSh.l8 M3, MSh.p26 M3, MSh.o9 M3, MSh.l9 M3, MSh.p32 M3, MSh.o10 M3, MSh.l10 M3, MSh.p33 M3, MSh.o11 M3, MSh.l11 M3, MSh.p35 M3, MSh.o12 M3, MSh.l12 M3, MSh.p36 M3, MSh.o13 M3, MSh.l13 M3, MSh.p37 M3, MSh.o14 M3, MSh.l14 M3, MSh.p38 M3, MSh.o15 M3, MSh.l15 M3, MSh.p39 M3, MSh.o16 M3, MSh.l16 M3, MSh.p42 M3, MSh.o17 M3, MSh.l17 M3, MSh.p43 M3, MSh.o18 M3, MSh.l18 M3, MSh.p44 M3, MSh.o19 M3, MSh.l19 M3, MSh.p45 M3, MSh.o20 M3, MSh.l20 M3, MSh.p46 M3, MSh.o21 M3, MSh.l21 M3, MSh.p47 M3, MSh.o22 M3, MSh.l22 M3, MSh.p50 M3, MSh.o23 M3, MSh.l23 M3, MSh.p51 M3, MSh.o24 M3, MSh.l24 M3, MSh.p52 M3, MSh.o25 M3, MSh.l25 M3, -Int.reduceToNat, -Int32.reduceToNatClampNeg, il0, il1, il2, il3, il4, il5, il6, il7, il8, il9, il10, il11, il12, il13, il14, il15, il16, il17, il18, il19, il20, il21, il22, il23, il24, il25, il26, il27, il28, il29, il30, il31, il32, il35, il36, il38, il40, il42, il43, il44, il45, il46, il47, il48, il49, il50, il51, il52, il57, il59, il60, il63, il64, il75, il80, il95, il96, il97, il98, il99, il100, il120, il122, il123, il127, il128, il135, il167, il175, il225, il249, il250, il255, il256, il360, il370, il384, il600, il700, il740, il900, il940, il1024, il1600, il4800, il64000, il125000, il262143, il1000000000, iI_toInt, iI_add, iI_sub, iI_mul, iI_neg, iI_lt, iI_le, iI_eq, iI_n, iI_in, iI_div, iI_mod, iI_shm, iI_and1, iI_and7, iI_and63, iI_shr3, iI_shr6, rd_I, ob, Option.some.injEq, exists_eq_left', exists_eq_left, true_and, and_true, fqI, fqJ, eq_self, true_or, or_true, bP_0, bP_0i, npP, bP_1i, bP_b, not_true_eq_false, not_false_eq_true, false_implies, true_implies, implies_true, Classical.not_not, and_self, cP, cP', ite_n, ite_T, ite_F, ite_t, ite_f]
  have hSp := ly_spot (t := tS (rd h2 94)) hG c1.1 c1.2 hc c3
  have hA : ∀ o, 0 ≤ o → o < rd h3 94 2 → RBd (rd h3 99) (rd h3 100) o := fun o o1 o2 => by
    rw [e3, d100]
    rw [d94] at o2
    by_cases co : o = r
    · subst co; exact RBd.of hSp.P1 (hG.z1 o1 o2)
    · have cc := spot_c (s := rd h2 94) (z := zC (rd h2 94)) (t := tS (rd h2 94)) (t' := lyT (rd h2 94) (tS (rd h2 94)) r x y u) (o := o) (tr3_n (by omega)) (tr3_n (by omega)) (tr3_n (by omega))
      exact RBd.of (cc.1.mpr (hG.vt o o1 o2).1).P1 (hG.z1 o1 o2)
  have r2 : r < rd h3 94 2 := by rw [d94]; exact c1.2
  rw [m_isOnAnother M3 (by rw [d94]; omega) c1.1 (by omega) (hA r c1.1 r2) hA, d94, e3, d100]
  simp (disch := omega) only [MSh.o0 M3, MSh.p1 M3, MSh.o1 M3, MSh.l1 M3, MSh.p6 M3, MSh.o2 M3, MSh.l2 M3, MSh.p7 M3, MSh.o3 M3, MSh.l3 M3, MSh.p8 M3, MSh.o4 M3, MSh.l4 M3, MSh.p9 M3, MSh.o5 M3, MSh.l5 M3, MSh.p10 M3, MSh.o6 M3, MSh.l6 M3, MSh.p24 M3, MSh.o7 M3, MSh.l7 M3, MSh.p25 M3, MSh.o8 M3, MSh.l8 M3, MSh.p26 M3, MSh.o9 M3, MSh.l9 M3, MSh.p32 M3, MSh.o10 M3, MSh.l10 M3, MSh.p33 M3, MSh.o11 M3, MSh.l11 M3, MSh.p35 M3, MSh.o12 M3, MSh.l12 M3, MSh.p36 M3, MSh.o13 M3, MSh.l13 M3, MSh.p37 M3, MSh.o14 M3, MSh.l14 M3, MSh.p38 M3, MSh.o15 M3, MSh.l15 M3, MSh.p39 M3, MSh.o16 M3, MSh.l16 M3, MSh.p42 M3, MSh.o17 M3, MSh.l17 M3, MSh.p43 M3, MSh.o18 M3, MSh.l18 M3, MSh.p44 M3, MSh.o19 M3, MSh.l19 M3, MSh.p45 M3, MSh.o20 M3, MSh.l20 M3, MSh.p46 M3, MSh.o21 M3, MSh.l21 M3, MSh.p47 M3, MSh.o22 M3, MSh.l22 M3, MSh.p50 M3, MSh.o23 M3, MSh.l23 M3, MSh.p51 M3, MSh.o24 M3, MSh.l24 M3, MSh.p52 M3, MSh.o25 M3, MSh.l25 M3, -Int.reduceToNat, -Int32.reduceToNatClampNeg, il0, il1, il2, il3, il4, il5, il6, il7, il8, il9, il10, il11, il12, il13, il14, il15, il16, il17, il18, il19, il20, il21, il22, il23, il24, il25, il26, il27, il28, il29, il30, il31, il32, il35, il36, il38, il40, il42, il43, il44, il45, il46, il47, il48, il49, il50, il51, il52, il57, il59, il60, il63, il64, il75, il80, il95, il96, il97, il98, il99, il100, il120, il122, il123, il127, il128, il135, il167, il175, il225, il249, il250, il255, il256, il360, il370, il384, il600, il700, il740, il900, il940, il1024, il1600, il4800, il64000, il125000, il262143, il1000000000, iI_toInt, iI_add, iI_sub, iI_mul, iI_neg, iI_lt, iI_le, iI_eq, iI_n, iI_in, iI_div, iI_mod, iI_shm, iI_and1, iI_and7, iI_and63, iI_shr3, iI_shr6, rd_I, ob, Option.some.injEq, exists_eq_left', exists_eq_left, true_and, and_true, fqI, fqJ, eq_self, true_or, or_true, bP_0, bP_0i, npP, bP_1i, bP_b, not_true_eq_false, not_false_eq_true, false_implies, true_implies, implies_true, Classical.not_not, and_self, cP, cP', ite_n]
  by_cases c4 : onAnT (rd h2 94) (lyT (rd h2 94) (tS (rd h2 94)) r x y u) (zC (rd h2 94)) r
  · rw [ite_t c4]; rw [ite_t (Or.inl c4)] at k3; exact k3
  rw [ite_f c4, m_isTooFar M3 (by rw [d94]; exact hG.sb) (by rw [d94]; omega) (by rw [d94]; exact hG.1.1.2.2.2.2.2.2.2.1) c1.1 (by omega) hA, d94, e3, d100]
  simp (disch := omega) only [MSh.o0 M3, MSh.p1 M3, MSh.o1 M3, MSh.l1 M3, MSh.p6 M3, MSh.o2 M3, MSh.l2 M3, MSh.p7 M3, MSh.o3 M3, MSh.l3 M3, MSh.p8 M3, MSh.o4 M3, MSh.l4 M3, MSh.p9 M3, MSh.o5 M3, MSh.l5 M3, MSh.p10 M3, MSh.o6 M3, MSh.l6 M3, MSh.p24 M3, MSh.o7 M3, MSh.l7 M3, MSh.p25 M3, MSh.o8 M3, MSh.l8 M3, MSh.p26 M3, MSh.o9 M3, MSh.l9 M3, MSh.p32 M3, MSh.o10 M3, MSh.l10 M3, MSh.p33 M3, MSh.o11 M3, MSh.l11 M3, MSh.p35 M3, MSh.o12 M3, MSh.l12 M3, MSh.p36 M3, MSh.o13 M3, MSh.l13 M3, MSh.p37 M3, MSh.o14 M3, MSh.l14 M3, MSh.p38 M3, MSh.o15 M3, MSh.l15 M3, MSh.p39 M3, MSh.o16 M3, MSh.l16 M3, MSh.p42 M3, MSh.o17 M3, MSh.l17 M3, MSh.p43 M3, MSh.o18 M3, MSh.l18 M3, MSh.p44 M3, MSh.o19 M3, MSh.l19 M3, MSh.p45 M3, MSh.o20 M3, MSh.l20 M3, MSh.p46 M3, MSh.o21 M3, MSh.l21 M3, MSh.p47 M3, MSh.o22 M3, MSh.l22 M3, MSh.p50 M3, MSh.o23 M3, MSh.l23 M3, MSh.p51 M3, MSh.o24 M3, MSh.l24 M3, MSh.p52 M3, MSh.o25 M3, MSh.l25 M3, -Int.reduceToNat, -Int32.reduceToNatClampNeg, il0, il1, il2, il3, il4, il5, il6, il7, il8, il9, il10, il11, il12, il13, il14, il15, il16, il17, il18, il19, il20, il21, il22, il23, il24, il25, il26, il27, il28, il29, il30, il31, il32, il35, il36, il38, il40, il42, il43, il44, il45, il46, il47, il48, il49, il50, il51, il52, il57, il59, il60, il63, il64, il75, il80, il95, il96, il97, il98, il99, il100, il120, il122, il123, il127, il128, il135, il167, il175, il225, il249, il250, il255, il256, il360, il370, il384, il600, il700, il740, il900, il940, il1024, il1600, il4800, il64000, il125000, il262143, il1000000000, iI_toInt, iI_add, iI_sub, iI_mul, iI_neg, iI_lt, iI_le, iI_eq, iI_n, iI_in, iI_div, iI_mod, iI_shm, iI_and1, iI_and7, iI_and63, iI_shr3, iI_shr6, rd_I, ob, Option.some.injEq, exists_eq_left', exists_eq_left, true_and, and_true, fqI, fqJ, eq_self, true_or, or_true, bP_0, bP_0i, npP, bP_1i, bP_b, not_true_eq_false, not_false_eq_true, false_implies, true_implies, implies_true, Classical.not_not, and_self, cP, cP', ite_n]
  by_cases c5 : farT (rd h2 94) (lyT (rd h2 94) (tS (rd h2 94)) r x y u) (zC (rd h2 94)) r
  · rw [ite_t c5]; rw [ite_t (Or.inr c5)] at k3; exact k3
  rw [ite_f c5]; rw [ite_f (fun q => q.elim c4 c5)] at k3
  rw [m_hours M3 (by rw [d94]; exact hG.sb) c1.1 (by omega) (hA r c1.1 r2) (by rw [e3, d100]; exact in8_of bd.1.2 bd.2.1.2 ci), d94, e3, d100]
  exact k3
end COULD
