/-! FOUND, ALLAT, LEFT, JUDGED, JUDGEDAT; a town out of bytes in the class -/
section GETS
variable {h h1 h2 : AH} {i la fr qa ac : Nat} {postV : AH → Prop} {post : AH → Int32 → Prop} {a b c d r x y n sp sq w hh u hr how one k : Int} {t s : Int → Int}
theorem enc_b (S : SpB t r) : (0 ≤ enc t r ∧ enc t r < 128) ∧ enc t r % 8 = t (3 * r) ∧ enc t r / 8 % 8 = t (3 * r + 1) ∧ enc t r / 64 = t (3 * r + 2) := by
  obtain ⟨⟨a1, a2⟩, ⟨b1, b2⟩, ⟨c1, c2⟩⟩ := S
  unfold enc
  omega
theorem cX_found (I : Inv h i la fr qa ac) (h3 : -2147483648 ≤ x) (h4 : x < 2147483648) (k : post h (iI (iteP (0 ≤ x ∧ x < rd h 92 40) (rd h 108 x) (-1)))) : wp_X11_found h 0 (iI x) post := by
  have S := I.s
  obtain ⟨q1, q2, q3, q4, q5, q6, q7, q8, q9, q10, q11⟩ := I.q
  unfold wp_X11_found
  simp (disch := omega) only [CSh.o0 S, CSh.o1 S, CSh.o2 S, CSh.o3 S, CSh.o26 S, CSh.o27 S, CSh.o29 S, CSh.o30 S, CSh.o31 S, CSh.o56 S, CSh.o57 S, CSh.o58 S, CSh.o62 S, CSh.o66 S, CSh.o70 S, CSh.o74 S, CSh.o75 S, CSh.o77 S, CSh.o79 S, CSh.o80 S, CSh.o81 S, CSh.o82 S, CSh.o83 S, CSh.o84 S, CSh.o85 S, CSh.o86 S, CSh.o87 S, CSh.o88 S, CSh.o53 S, CSh.o54 S, CSh.o55 S, CSh.o59 S, CSh.o60 S, CSh.o61 S, CSh.o63 S, CSh.o64 S, CSh.o65 S, CSh.o67 S, CSh.o68 S, CSh.o69 S, CSh.o71 S, CSh.o72 S, CSh.o73 S, CSh.o89 S, CSh.o90 S, CSh.o91 S, CSh.l1 S, CSh.l3 S, CSh.l27 S, CSh.l29 S, CSh.l30 S, CSh.l56 S, CSh.l57 S, CSh.l58 S, CSh.l75 S, CSh.l77 S, CSh.l79 S, CSh.l81 S, CSh.l82 S, CSh.l83 S, CSh.l84 S, CSh.l85 S, CSh.l86 S, CSh.l87 S, CSh.l88 S, CSh.l54 S, CSh.l55 S, CSh.l60 S, CSh.l61 S, CSh.l64 S, CSh.l65 S, CSh.l68 S, CSh.l69 S, CSh.l72 S, CSh.l73 S, CSh.l90 S, CSh.l91 S, CSh.p0_0 S, CSh.p0_3 S, CSh.p0_4 S, CSh.p0_5 S, CSh.p0_6 S, CSh.p0_7 S, CSh.p0_8 S, CSh.p0_9 S, CSh.p0_10 S, CSh.p0_14 S, CSh.p2_0 S, CSh.p26_0 S, CSh.p26_13 S, CSh.p26_14 S, CSh.p31_1 S, CSh.p31_3 S, CSh.p31_4 S, CSh.p62_0 S, CSh.p66_0 S, CSh.p70_0 S, CSh.p74_0 S, CSh.p74_1 S, CSh.p74_6 S, CSh.p74_7 S, CSh.p74_10 S, CSh.p80_1 S, CSh.p80_2 S, CSh.p80_3 S, CSh.p80_4 S, CSh.p80_5 S, CSh.p80_6 S, CSh.p80_7 S, CSh.p80_8 S, CSh.p53_1 S, CSh.p53_2 S, CSh.p59_1 S, CSh.p59_2 S, CSh.p63_1 S, CSh.p63_2 S, CSh.p67_1 S, CSh.p67_2 S, CSh.p71_1 S, CSh.p71_2 S, CSh.p89_1 S, CSh.p89_2 S, fd0, fd1, fd2, fd3, fd4, fd5, fd6, fd7, fd8, fd9, fd10, fd11, fd12, fd13, fd14, fd15, fd16, fd17, fd18, fd19, fd20, fd21, fd22, fd23, fd24, fd25, fd26, fd27, fd28, fd29, fd30, fd31, fd32, fd33, fd34, fd35, fd36, fd37, fd38, fd39, fd40, fd41, fd42, fd43, fd44, fd45, fd46, fd47, fd48, fd49, fd50, fd51, fd52, q7, q4, q5, -Int.reduceToNat, -Int32.reduceToNatClampNeg, il0, il1, il2, il3, il4, il5, il6, il7, il8, il9, il10, il11, il12, il13, il14, il15, il16, il17, il18, il19, il20, il21, il22, il23, il24, il25, il26, il27, il28, il29, il30, il31, il32, il35, il36, il38, il40, il42, il43, il44, il45, il46, il47, il48, il49, il50, il51, il52, il57, il59, il60, il63, il64, il75, il80, il95, il96, il97, il98, il99, il100, il120, il122, il123, il127, il128, il135, il167, il175, il225, il249, il250, il255, il256, il360, il370, il384, il600, il700, il740, il900, il940, il1024, il1600, il4800, il64000, il125000, il262143, il1000000000, iI_toInt, iI_add, iI_sub, iI_mul, iI_neg, iI_lt, iI_le, iI_eq, iI_n, iI_in, iI_div, iI_mod, iI_shm, iI_and1, iI_and7, iI_and63, iI_shr3, iI_shr6, rd_I, ob, Option.some.injEq, exists_eq_left', exists_eq_left, true_and, and_true, fqI, fqJ, eq_self, true_or, or_true, bP_0, bP_0i, npP, bP_1i, bP_b, not_true_eq_false, not_false_eq_true, false_implies, true_implies, implies_true, Classical.not_not, and_self, cP, cP', ite_n]
  by_cases c1 : x < 0
  · rw [ite_t c1]; rw [ite_f (by omega)] at k; exact k
  rw [ite_f c1]
  by_cases c2 : x < rd h 92 40
  · rw [ite_t c2]; rw [ite_t (by omega), ← q9 x (by omega) c2] at k
    refine ⟨iI_in (by omega) (by omega) (by omega), ?_⟩
    rw [iI_n (by omega) (by omega), rd_I h ac (by omega)]
    exact k
  · rw [ite_f c2]; rw [ite_f (by omega)] at k; exact k
theorem mX_found (I : Inv h i la fr qa ac) (h3 : -2147483648 ≤ x) (h4 : x < 2147483648) (k : ∀ h', Qt h h' → post h' (iI (iteP (0 ≤ x ∧ x < rd h 92 40) (rd h 108 x) (-1)))) : wp_X12_found h 92 (iI x) post := by
  unfold wp_X12_found
  refine ⟨I.m.o0, fun h1 e1 => ?_⟩
  obtain ⟨I1, q1, es, -⟩ := I.thr e1
  have k := k h1 q1
  rw [← q1.2.1 40 (by decide), ← q1.1.row (a := 108) (by decide)] at k
  have M := I1.m
  have q := I1.q.2.2.2.2.2.2.2.1
  simp (disch := omega) only [MSh.o0 M, MSh.p1 M, MSh.o1 M, MSh.l1 M, MSh.p6 M, MSh.o2 M, MSh.l2 M, MSh.p7 M, MSh.o3 M, MSh.l3 M, MSh.p8 M, MSh.o4 M, MSh.l4 M, MSh.p9 M, MSh.o5 M, MSh.l5 M, MSh.p10 M, MSh.o6 M, MSh.l6 M, MSh.p24 M, MSh.o7 M, MSh.l7 M, MSh.p25 M, MSh.o8 M, MSh.l8 M, MSh.p26 M, MSh.o9 M, MSh.l9 M, MSh.p32 M, MSh.o10 M, MSh.l10 M, MSh.p33 M, MSh.o11 M, MSh.l11 M, MSh.p35 M, MSh.o12 M, MSh.l12 M, MSh.p36 M, MSh.o13 M, MSh.l13 M, MSh.p37 M, MSh.o14 M, MSh.l14 M, MSh.p38 M, MSh.o15 M, MSh.l15 M, MSh.p39 M, MSh.o16 M, MSh.l16 M, MSh.p42 M, MSh.o17 M, MSh.l17 M, MSh.p43 M, MSh.o18 M, MSh.l18 M, MSh.p44 M, MSh.o19 M, MSh.l19 M, MSh.p45 M, MSh.o20 M, MSh.l20 M, MSh.p46 M, MSh.o21 M, MSh.l21 M, MSh.p47 M, MSh.o22 M, MSh.l22 M, MSh.p50 M, MSh.o23 M, MSh.l23 M, MSh.p51 M, MSh.o24 M, MSh.l24 M, MSh.p52 M, MSh.o25 M, MSh.l25 M, fd0, fd1, fd2, fd3, fd4, fd5, fd6, fd7, fd8, fd9, fd10, fd11, fd12, fd13, fd14, fd15, fd16, fd17, fd18, fd19, fd20, fd21, fd22, fd23, fd24, fd25, fd26, fd27, fd28, fd29, fd30, fd31, fd32, fd33, fd34, fd35, fd36, fd37, fd38, fd39, fd40, fd41, fd42, fd43, fd44, fd45, fd46, fd47, fd48, fd49, fd50, fd51, fd52, -Int.reduceToNat, -Int32.reduceToNatClampNeg, il0, il1, il2, il3, il4, il5, il6, il7, il8, il9, il10, il11, il12, il13, il14, il15, il16, il17, il18, il19, il20, il21, il22, il23, il24, il25, il26, il27, il28, il29, il30, il31, il32, il35, il36, il38, il40, il42, il43, il44, il45, il46, il47, il48, il49, il50, il51, il52, il57, il59, il60, il63, il64, il75, il80, il95, il96, il97, il98, il99, il100, il120, il122, il123, il127, il128, il135, il167, il175, il225, il249, il250, il255, il256, il360, il370, il384, il600, il700, il740, il900, il940, il1024, il1600, il4800, il64000, il125000, il262143, il1000000000, iI_toInt, iI_add, iI_sub, iI_mul, iI_neg, iI_lt, iI_le, iI_eq, iI_n, iI_in, iI_div, iI_mod, iI_shm, iI_and1, iI_and7, iI_and63, iI_shr3, iI_shr6, rd_I, ob, Option.some.injEq, exists_eq_left', exists_eq_left, true_and, and_true, fqI, fqJ, eq_self, true_or, or_true, bP_0, bP_0i, npP, bP_1i, bP_b, not_true_eq_false, not_false_eq_true, false_implies, true_implies, implies_true, Classical.not_not, and_self, cP, cP', ite_n, m_isIn]
  by_cases c : 0 ≤ x ∧ x ≤ rd h1 92 40 - 1
  · rw [ite_t c]; rw [ite_t (by omega)] at k
    simp (disch := omega) only [MSh.o0 M, MSh.p1 M, MSh.o1 M, MSh.l1 M, MSh.p6 M, MSh.o2 M, MSh.l2 M, MSh.p7 M, MSh.o3 M, MSh.l3 M, MSh.p8 M, MSh.o4 M, MSh.l4 M, MSh.p9 M, MSh.o5 M, MSh.l5 M, MSh.p10 M, MSh.o6 M, MSh.l6 M, MSh.p24 M, MSh.o7 M, MSh.l7 M, MSh.p25 M, MSh.o8 M, MSh.l8 M, MSh.p26 M, MSh.o9 M, MSh.l9 M, MSh.p32 M, MSh.o10 M, MSh.l10 M, MSh.p33 M, MSh.o11 M, MSh.l11 M, MSh.p35 M, MSh.o12 M, MSh.l12 M, MSh.p36 M, MSh.o13 M, MSh.l13 M, MSh.p37 M, MSh.o14 M, MSh.l14 M, MSh.p38 M, MSh.o15 M, MSh.l15 M, MSh.p39 M, MSh.o16 M, MSh.l16 M, MSh.p42 M, MSh.o17 M, MSh.l17 M, MSh.p43 M, MSh.o18 M, MSh.l18 M, MSh.p44 M, MSh.o19 M, MSh.l19 M, MSh.p45 M, MSh.o20 M, MSh.l20 M, MSh.p46 M, MSh.o21 M, MSh.l21 M, MSh.p47 M, MSh.o22 M, MSh.l22 M, MSh.p50 M, MSh.o23 M, MSh.l23 M, MSh.p51 M, MSh.o24 M, MSh.l24 M, MSh.p52 M, MSh.o25 M, MSh.l25 M, fd0, fd1, fd2, fd3, fd4, fd5, fd6, fd7, fd8, fd9, fd10, fd11, fd12, fd13, fd14, fd15, fd16, fd17, fd18, fd19, fd20, fd21, fd22, fd23, fd24, fd25, fd26, fd27, fd28, fd29, fd30, fd31, fd32, fd33, fd34, fd35, fd36, fd37, fd38, fd39, fd40, fd41, fd42, fd43, fd44, fd45, fd46, fd47, fd48, fd49, fd50, fd51, fd52, -Int.reduceToNat, -Int32.reduceToNatClampNeg, il0, il1, il2, il3, il4, il5, il6, il7, il8, il9, il10, il11, il12, il13, il14, il15, il16, il17, il18, il19, il20, il21, il22, il23, il24, il25, il26, il27, il28, il29, il30, il31, il32, il35, il36, il38, il40, il42, il43, il44, il45, il46, il47, il48, il49, il50, il51, il52, il57, il59, il60, il63, il64, il75, il80, il95, il96, il97, il98, il99, il100, il120, il122, il123, il127, il128, il135, il167, il175, il225, il249, il250, il255, il256, il360, il370, il384, il600, il700, il740, il900, il940, il1024, il1600, il4800, il64000, il125000, il262143, il1000000000, iI_toInt, iI_add, iI_sub, iI_mul, iI_neg, iI_lt, iI_le, iI_eq, iI_n, iI_in, iI_div, iI_mod, iI_shm, iI_and1, iI_and7, iI_and63, iI_shr3, iI_shr6, rd_I, ob, Option.some.injEq, exists_eq_left', exists_eq_left, true_and, and_true, fqI, fqJ, eq_self, true_or, or_true, bP_0, bP_0i, npP, bP_1i, bP_b, not_true_eq_false, not_false_eq_true, false_implies, true_implies, implies_true, Classical.not_not, and_self]
    exact k
  · rw [ite_f c]; rw [ite_f (by omega)] at k; exact k
def partV (t : Int → Int) (r w : Int) : Int := if 0 ≤ w ∧ w ≤ 2 then t (3 * r + w) else -1
theorem c_part (S : SpB t r) (h3 : -2147483648 ≤ w) (h4 : w < 2147483648) (k : post h (iI (partV t r w))) : wp_X11_partOfSpot h (iI (enc t r)) (iI w) post := by
  have e := enc_b S
  unfold wp_X11_partOfSpot
  unfold partV at k
  simp (disch := omega) only [-Int.reduceToNat, -Int32.reduceToNatClampNeg, il0, il1, il2, il3, il4, il5, il6, il7, il8, il9, il10, il11, il12, il13, il14, il15, il16, il17, il18, il19, il20, il21, il22, il23, il24, il25, il26, il27, il28, il29, il30, il31, il32, il35, il36, il38, il40, il42, il43, il44, il45, il46, il47, il48, il49, il50, il51, il52, il57, il59, il60, il63, il64, il75, il80, il95, il96, il97, il98, il99, il100, il120, il122, il123, il127, il128, il135, il167, il175, il225, il249, il250, il255, il256, il360, il370, il384, il600, il700, il740, il900, il940, il1024, il1600, il4800, il64000, il125000, il262143, il1000000000, iI_toInt, iI_add, iI_sub, iI_mul, iI_neg, iI_lt, iI_le, iI_eq, iI_n, iI_in, iI_div, iI_mod, iI_shm, iI_and1, iI_and7, iI_and63, iI_shr3, iI_shr6, rd_I, ob, Option.some.injEq, exists_eq_left', exists_eq_left, true_and, and_true, fqI, fqJ, eq_self, true_or, or_true, bP_0, bP_0i, npP, bP_1i, bP_b, not_true_eq_false, not_false_eq_true, false_implies, true_implies, implies_true, Classical.not_not, and_self]
  rw [e.2.1, e.2.2.1, e.2.2.2]
  refine ⟨fun q => ?_, fun q => ?_, fun q => ?_, fun q => ?_⟩
  · rw [if_pos (by omega), q, Int.add_zero] at k; exact k
  · rw [if_pos (by omega), q] at k; exact k
  · rw [if_pos (by omega), q] at k; exact k
  · rw [if_neg (by omega)] at k; exact k
theorem cX_allAt (I : Inv h i la fr qa ac) (hr1 : -2147483648 ≤ r) (hr2 : r < 2147483648) (h3 : -2147483648 ≤ w) (h4 : w < 2147483648) (k : post h (iI (iteP (0 ≤ r ∧ r < rd h 92 48) (partV (rd h 114) r w) (-1)))) : wp_X11_allAt h 0 (iI r) (iI w) post := by
  have S := I.s
  have A : IvA h := I.2.2.2.2.2.2.2.2.2.2.2.2.2.2.1
  unfold wp_X11_allAt
  simp (disch := omega) only [CSh.o0 S, CSh.o1 S, CSh.o2 S, CSh.o3 S, CSh.o26 S, CSh.o27 S, CSh.o29 S, CSh.o30 S, CSh.o31 S, CSh.o56 S, CSh.o57 S, CSh.o58 S, CSh.o62 S, CSh.o66 S, CSh.o70 S, CSh.o74 S, CSh.o75 S, CSh.o77 S, CSh.o79 S, CSh.o80 S, CSh.o81 S, CSh.o82 S, CSh.o83 S, CSh.o84 S, CSh.o85 S, CSh.o86 S, CSh.o87 S, CSh.o88 S, CSh.o53 S, CSh.o54 S, CSh.o55 S, CSh.o59 S, CSh.o60 S, CSh.o61 S, CSh.o63 S, CSh.o64 S, CSh.o65 S, CSh.o67 S, CSh.o68 S, CSh.o69 S, CSh.o71 S, CSh.o72 S, CSh.o73 S, CSh.o89 S, CSh.o90 S, CSh.o91 S, CSh.l1 S, CSh.l3 S, CSh.l27 S, CSh.l29 S, CSh.l30 S, CSh.l56 S, CSh.l57 S, CSh.l58 S, CSh.l75 S, CSh.l77 S, CSh.l79 S, CSh.l81 S, CSh.l82 S, CSh.l83 S, CSh.l84 S, CSh.l85 S, CSh.l86 S, CSh.l87 S, CSh.l88 S, CSh.l54 S, CSh.l55 S, CSh.l60 S, CSh.l61 S, CSh.l64 S, CSh.l65 S, CSh.l68 S, CSh.l69 S, CSh.l72 S, CSh.l73 S, CSh.l90 S, CSh.l91 S, CSh.p0_0 S, CSh.p0_3 S, CSh.p0_4 S, CSh.p0_5 S, CSh.p0_6 S, CSh.p0_7 S, CSh.p0_8 S, CSh.p0_9 S, CSh.p0_10 S, CSh.p0_14 S, CSh.p2_0 S, CSh.p26_0 S, CSh.p26_13 S, CSh.p26_14 S, CSh.p31_1 S, CSh.p31_3 S, CSh.p31_4 S, CSh.p62_0 S, CSh.p66_0 S, CSh.p70_0 S, CSh.p74_0 S, CSh.p74_1 S, CSh.p74_6 S, CSh.p74_7 S, CSh.p74_10 S, CSh.p80_1 S, CSh.p80_2 S, CSh.p80_3 S, CSh.p80_4 S, CSh.p80_5 S, CSh.p80_6 S, CSh.p80_7 S, CSh.p80_8 S, CSh.p53_1 S, CSh.p53_2 S, CSh.p59_1 S, CSh.p59_2 S, CSh.p63_1 S, CSh.p63_2 S, CSh.p67_1 S, CSh.p67_2 S, CSh.p71_1 S, CSh.p71_2 S, CSh.p89_1 S, CSh.p89_2 S, fd0, fd1, fd2, fd3, fd4, fd5, fd6, fd7, fd8, fd9, fd10, fd11, fd12, fd13, fd14, fd15, fd16, fd17, fd18, fd19, fd20, fd21, fd22, fd23, fd24, fd25, fd26, fd27, fd28, fd29, fd30, fd31, fd32, fd33, fd34, fd35, fd36, fd37, fd38, fd39, fd40, fd41, fd42, fd43, fd44, fd45, fd46, fd47, fd48, fd49, fd50, fd51, fd52, -Int.reduceToNat, -Int32.reduceToNatClampNeg, il0, il1, il2, il3, il4, il5, il6, il7, il8, il9, il10, il11, il12, il13, il14, il15, il16, il17, il18, il19, il20, il21, il22, il23, il24, il25, il26, il27, il28, il29, il30, il31, il32, il35, il36, il38, il40, il42, il43, il44, il45, il46, il47, il48, il49, il50, il51, il52, il57, il59, il60, il63, il64, il75, il80, il95, il96, il97, il98, il99, il100, il120, il122, il123, il127, il128, il135, il167, il175, il225, il249, il250, il255, il256, il360, il370, il384, il600, il700, il740, il900, il940, il1024, il1600, il4800, il64000, il125000, il262143, il1000000000, iI_toInt, iI_add, iI_sub, iI_mul, iI_neg, iI_lt, iI_le, iI_eq, iI_n, iI_in, iI_div, iI_mod, iI_shm, iI_and1, iI_and7, iI_and63, iI_shr3, iI_shr6, rd_I, ob, Option.some.injEq, exists_eq_left', exists_eq_left, true_and, and_true, fqI, fqJ, eq_self, true_or, or_true, bP_0, bP_0i, npP, bP_1i, bP_b, not_true_eq_false, not_false_eq_true, false_implies, true_implies, implies_true, Classical.not_not, and_self, cP, cP', ite_n]
  by_cases c1 : r < 0
  · rw [ite_t c1]; rw [ite_f (by omega)] at k; exact k
  rw [ite_f c1]
  have bb := rd_bd h 74 13
  simp (disch := omega) only [fd0, fd1, fd2, fd3, fd4, fd5, fd6, fd7, fd8, fd9, fd10, fd11, fd12, fd13, fd14, fd15, fd16, fd17, fd18, fd19, fd20, fd21, fd22, fd23, fd24, fd25, fd26, fd27, fd28, fd29, fd30, fd31, fd32, fd33, fd34, fd35, fd36, fd37, fd38, fd39, fd40, fd41, fd42, fd43, fd44, fd45, fd46, fd47, fd48, fd49, fd50, fd51, fd52, iI_toInt, iI_add, iI_sub, iI_mul, iI_neg, iI_lt, iI_le, iI_eq, iI_n, iI_in, iI_div, iI_mod, iI_shm, iI_and1, iI_and7, iI_and63, iI_shr3, iI_shr6, rd_I]
  rcases A with ⟨a1, a2, a3⟩ | ⟨a1, a2, a3, a4⟩
  · rw [a2, ite_f (by omega)]; rw [ite_f (by omega)] at k; exact k
  rw [a2]
  by_cases c2 : r < rd h 92 48
  · rw [ite_t c2]; rw [ite_t (by omega)] at k
    obtain ⟨e1, e2⟩ := a4 r (by omega) c2
    simp (disch := omega) only [CSh.o0 S, CSh.o1 S, CSh.o2 S, CSh.o3 S, CSh.o26 S, CSh.o27 S, CSh.o29 S, CSh.o30 S, CSh.o31 S, CSh.o56 S, CSh.o57 S, CSh.o58 S, CSh.o62 S, CSh.o66 S, CSh.o70 S, CSh.o74 S, CSh.o75 S, CSh.o77 S, CSh.o79 S, CSh.o80 S, CSh.o81 S, CSh.o82 S, CSh.o83 S, CSh.o84 S, CSh.o85 S, CSh.o86 S, CSh.o87 S, CSh.o88 S, CSh.o53 S, CSh.o54 S, CSh.o55 S, CSh.o59 S, CSh.o60 S, CSh.o61 S, CSh.o63 S, CSh.o64 S, CSh.o65 S, CSh.o67 S, CSh.o68 S, CSh.o69 S, CSh.o71 S, CSh.o72 S, CSh.o73 S, CSh.o89 S, CSh.o90 S, CSh.o91 S, CSh.l1 S, CSh.l3 S, CSh.l27 S, CSh.l29 S, CSh.l30 S, CSh.l56 S, CSh.l57 S, CSh.l58 S, CSh.l75 S, CSh.l77 S, CSh.l79 S, CSh.l81 S, CSh.l82 S, CSh.l83 S, CSh.l84 S, CSh.l85 S, CSh.l86 S, CSh.l87 S, CSh.l88 S, CSh.l54 S, CSh.l55 S, CSh.l60 S, CSh.l61 S, CSh.l64 S, CSh.l65 S, CSh.l68 S, CSh.l69 S, CSh.l72 S, CSh.l73 S, CSh.l90 S, CSh.l91 S, CSh.p0_0 S, CSh.p0_3 S, CSh.p0_4 S, CSh.p0_5 S, CSh.p0_6 S, CSh.p0_7 S, CSh.p0_8 S, CSh.p0_9 S, CSh.p0_10 S, CSh.p0_14 S, CSh.p2_0 S, CSh.p26_0 S, CSh.p26_13 S, CSh.p26_14 S, CSh.p31_1 S, CSh.p31_3 S, CSh.p31_4 S, CSh.p62_0 S, CSh.p66_0 S, CSh.p70_0 S, CSh.p74_0 S, CSh.p74_1 S, CSh.p74_6 S, CSh.p74_7 S, CSh.p74_10 S, CSh.p80_1 S, CSh.p80_2 S, CSh.p80_3 S, CSh.p80_4 S, CSh.p80_5 S, CSh.p80_6 S, CSh.p80_7 S, CSh.p80_8 S, CSh.p53_1 S, CSh.p53_2 S, CSh.p59_1 S, CSh.p59_2 S, CSh.p63_1 S, CSh.p63_2 S, CSh.p67_1 S, CSh.p67_2 S, CSh.p71_1 S, CSh.p71_2 S, CSh.p89_1 S, CSh.p89_2 S, fd0, fd1, fd2, fd3, fd4, fd5, fd6, fd7, fd8, fd9, fd10, fd11, fd12, fd13, fd14, fd15, fd16, fd17, fd18, fd19, fd20, fd21, fd22, fd23, fd24, fd25, fd26, fd27, fd28, fd29, fd30, fd31, fd32, fd33, fd34, fd35, fd36, fd37, fd38, fd39, fd40, fd41, fd42, fd43, fd44, fd45, fd46, fd47, fd48, fd49, fd50, fd51, fd52, -Int.reduceToNat, -Int32.reduceToNatClampNeg, il0, il1, il2, il3, il4, il5, il6, il7, il8, il9, il10, il11, il12, il13, il14, il15, il16, il17, il18, il19, il20, il21, il22, il23, il24, il25, il26, il27, il28, il29, il30, il31, il32, il35, il36, il38, il40, il42, il43, il44, il45, il46, il47, il48, il49, il50, il51, il52, il57, il59, il60, il63, il64, il75, il80, il95, il96, il97, il98, il99, il100, il120, il122, il123, il127, il128, il135, il167, il175, il225, il249, il250, il255, il256, il360, il370, il384, il600, il700, il740, il900, il940, il1024, il1600, il4800, il64000, il125000, il262143, il1000000000, iI_toInt, iI_add, iI_sub, iI_mul, iI_neg, iI_lt, iI_le, iI_eq, iI_n, iI_in, iI_div, iI_mod, iI_shm, iI_and1, iI_and7, iI_and63, iI_shr3, iI_shr6, rd_I, ob, Option.some.injEq, exists_eq_left', exists_eq_left, true_and, and_true, fqI, fqJ, eq_self, true_or, or_true, bP_0, bP_0i, npP, bP_1i, bP_b, not_true_eq_false, not_false_eq_true, false_implies, true_implies, implies_true, Classical.not_not, and_self, e1]
    exact c_part e2 h3 h4 k
  · rw [ite_f c2]; rw [ite_f (by omega)] at k; exact k
theorem mX_allAt (I : Inv h i la fr qa ac) (hr1 : -2147483648 ≤ r) (hr2 : r < 2147483648) (h3 : -2147483648 ≤ w) (h4 : w < 2147483648) (k : ∀ h', Qt h h' → post h' (iI (iteP (0 ≤ r ∧ r < rd h 92 48) (partV (rd h 114) r w) (-1)))) : wp_X12_allAt h 92 (iI r) (iI w) post := by
  unfold wp_X12_allAt
  refine ⟨I.m.o0, fun h1 e1 => ?_⟩
  obtain ⟨I1, q1, es, -⟩ := I.thr e1
  have k := k h1 q1
  rw [← q1.2.1 48 (by decide), ← q1.1.row (a := 114) (by decide)] at k
  have M := I1.m
  have A : IvA h1 := I1.2.2.2.2.2.2.2.2.2.2.2.2.2.2.1
  have bb : -1 ≤ rd h1 92 48 ∧ rd h1 92 48 ≤ 3 := by rcases A with ⟨a1, -⟩ | ⟨a1, -⟩ <;> omega
  simp (disch := omega) only [MSh.o0 M, MSh.p1 M, MSh.o1 M, MSh.l1 M, MSh.p6 M, MSh.o2 M, MSh.l2 M, MSh.p7 M, MSh.o3 M, MSh.l3 M, MSh.p8 M, MSh.o4 M, MSh.l4 M, MSh.p9 M, MSh.o5 M, MSh.l5 M, MSh.p10 M, MSh.o6 M, MSh.l6 M, MSh.p24 M, MSh.o7 M, MSh.l7 M, MSh.p25 M, MSh.o8 M, MSh.l8 M, MSh.p26 M, MSh.o9 M, MSh.l9 M, MSh.p32 M, MSh.o10 M, MSh.l10 M, MSh.p33 M, MSh.o11 M, MSh.l11 M, MSh.p35 M, MSh.o12 M, MSh.l12 M, MSh.p36 M, MSh.o13 M, MSh.l13 M, MSh.p37 M, MSh.o14 M, MSh.l14 M, MSh.p38 M, MSh.o15 M, MSh.l15 M, MSh.p39 M, MSh.o16 M, MSh.l16 M, MSh.p42 M, MSh.o17 M, MSh.l17 M, MSh.p43 M, MSh.o18 M, MSh.l18 M, MSh.p44 M, MSh.o19 M, MSh.l19 M, MSh.p45 M, MSh.o20 M, MSh.l20 M, MSh.p46 M, MSh.o21 M, MSh.l21 M, MSh.p47 M, MSh.o22 M, MSh.l22 M, MSh.p50 M, MSh.o23 M, MSh.l23 M, MSh.p51 M, MSh.o24 M, MSh.l24 M, MSh.p52 M, MSh.o25 M, MSh.l25 M, fd0, fd1, fd2, fd3, fd4, fd5, fd6, fd7, fd8, fd9, fd10, fd11, fd12, fd13, fd14, fd15, fd16, fd17, fd18, fd19, fd20, fd21, fd22, fd23, fd24, fd25, fd26, fd27, fd28, fd29, fd30, fd31, fd32, fd33, fd34, fd35, fd36, fd37, fd38, fd39, fd40, fd41, fd42, fd43, fd44, fd45, fd46, fd47, fd48, fd49, fd50, fd51, fd52, -Int.reduceToNat, -Int32.reduceToNatClampNeg, il0, il1, il2, il3, il4, il5, il6, il7, il8, il9, il10, il11, il12, il13, il14, il15, il16, il17, il18, il19, il20, il21, il22, il23, il24, il25, il26, il27, il28, il29, il30, il31, il32, il35, il36, il38, il40, il42, il43, il44, il45, il46, il47, il48, il49, il50, il51, il52, il57, il59, il60, il63, il64, il75, il80, il95, il96, il97, il98, il99, il100, il120, il122, il123, il127, il128, il135, il167, il175, il225, il249, il250, il255, il256, il360, il370, il384, il600, il700, il740, il900, il940, il1024, il1600, il4800, il64000, il125000, il262143, il1000000000, iI_toInt, iI_add, iI_sub, iI_mul, iI_neg, iI_lt, iI_le, iI_eq, iI_n, iI_in, iI_div, iI_mod, iI_shm, iI_and1, iI_and7, iI_and63, iI_shr3, iI_shr6, rd_I, ob, Option.some.injEq, exists_eq_left', exists_eq_left, true_and, and_true, fqI, fqJ, eq_self, true_or, or_true, bP_0, bP_0i, npP, bP_1i, bP_b, not_true_eq_false, not_false_eq_true, false_implies, true_implies, implies_true, Classical.not_not, and_self, cP, cP', ite_n, m_isIn]
  by_cases c : 0 ≤ r ∧ r ≤ rd h1 92 48 - 1
  case neg => rw [ite_f c]; rw [ite_f (by omega)] at k; exact k
  rw [ite_t c]; rw [ite_t (by omega)] at k
  unfold partV at k
  by_cases c2 : 0 ≤ w ∧ w ≤ 2
  case neg => rw [ite_f c2]; rw [if_neg c2] at k; exact k
  rw [ite_t c2]; rw [if_pos c2] at k
  simp (disch := omega) only [MSh.o0 M, MSh.p1 M, MSh.o1 M, MSh.l1 M, MSh.p6 M, MSh.o2 M, MSh.l2 M, MSh.p7 M, MSh.o3 M, MSh.l3 M, MSh.p8 M, MSh.o4 M, MSh.l4 M, MSh.p9 M, MSh.o5 M, MSh.l5 M, MSh.p10 M, MSh.o6 M, MSh.l6 M, MSh.p24 M, MSh.o7 M, MSh.l7 M, MSh.p25 M, MSh.o8 M, MSh.l8 M, MSh.p26 M, MSh.o9 M, MSh.l9 M, MSh.p32 M, MSh.o10 M, MSh.l10 M, MSh.p33 M, MSh.o11 M, MSh.l11 M, MSh.p35 M, MSh.o12 M, MSh.l12 M, MSh.p36 M, MSh.o13 M, MSh.l13 M, MSh.p37 M, MSh.o14 M, MSh.l14 M, MSh.p38 M, MSh.o15 M, MSh.l15 M, MSh.p39 M, MSh.o16 M, MSh.l16 M, MSh.p42 M, MSh.o17 M, MSh.l17 M, MSh.p43 M, MSh.o18 M, MSh.l18 M, MSh.p44 M, MSh.o19 M, MSh.l19 M, MSh.p45 M, MSh.o20 M, MSh.l20 M, MSh.p46 M, MSh.o21 M, MSh.l21 M, MSh.p47 M, MSh.o22 M, MSh.l22 M, MSh.p50 M, MSh.o23 M, MSh.l23 M, MSh.p51 M, MSh.o24 M, MSh.l24 M, MSh.p52 M, MSh.o25 M, MSh.l25 M, fd0, fd1, fd2, fd3, fd4, fd5, fd6, fd7, fd8, fd9, fd10, fd11, fd12, fd13, fd14, fd15, fd16, fd17, fd18, fd19, fd20, fd21, fd22, fd23, fd24, fd25, fd26, fd27, fd28, fd29, fd30, fd31, fd32, fd33, fd34, fd35, fd36, fd37, fd38, fd39, fd40, fd41, fd42, fd43, fd44, fd45, fd46, fd47, fd48, fd49, fd50, fd51, fd52, -Int.reduceToNat, -Int32.reduceToNatClampNeg, il0, il1, il2, il3, il4, il5, il6, il7, il8, il9, il10, il11, il12, il13, il14, il15, il16, il17, il18, il19, il20, il21, il22, il23, il24, il25, il26, il27, il28, il29, il30, il31, il32, il35, il36, il38, il40, il42, il43, il44, il45, il46, il47, il48, il49, il50, il51, il52, il57, il59, il60, il63, il64, il75, il80, il95, il96, il97, il98, il99, il100, il120, il122, il123, il127, il128, il135, il167, il175, il225, il249, il250, il255, il256, il360, il370, il384, il600, il700, il740, il900, il940, il1024, il1600, il4800, il64000, il125000, il262143, il1000000000, iI_toInt, iI_add, iI_sub, iI_mul, iI_neg, iI_lt, iI_le, iI_eq, iI_n, iI_in, iI_div, iI_mod, iI_shm, iI_and1, iI_and7, iI_and63, iI_shr3, iI_shr6, rd_I, ob, Option.some.injEq, exists_eq_left', exists_eq_left, true_and, and_true, fqI, fqJ, eq_self, true_or, or_true, bP_0, bP_0i, npP, bP_1i, bP_b, not_true_eq_false, not_false_eq_true, false_implies, true_implies, implies_true, Classical.not_not, and_self]
  exact k
theorem cX_left (I : Inv h i la fr qa ac) (k : post h (iI (iteP (0 ≤ rd h 92 48) (rd h 92 49) (-1)))) : wp_X11_left h 0 post := by
  have S := I.s
  have A : IvA h := I.2.2.2.2.2.2.2.2.2.2.2.2.2.2.1
  unfold wp_X11_left
  simp (disch := omega) only [CSh.o0 S, CSh.o1 S, CSh.o2 S, CSh.o3 S, CSh.o26 S, CSh.o27 S, CSh.o29 S, CSh.o30 S, CSh.o31 S, CSh.o56 S, CSh.o57 S, CSh.o58 S, CSh.o62 S, CSh.o66 S, CSh.o70 S, CSh.o74 S, CSh.o75 S, CSh.o77 S, CSh.o79 S, CSh.o80 S, CSh.o81 S, CSh.o82 S, CSh.o83 S, CSh.o84 S, CSh.o85 S, CSh.o86 S, CSh.o87 S, CSh.o88 S, CSh.o53 S, CSh.o54 S, CSh.o55 S, CSh.o59 S, CSh.o60 S, CSh.o61 S, CSh.o63 S, CSh.o64 S, CSh.o65 S, CSh.o67 S, CSh.o68 S, CSh.o69 S, CSh.o71 S, CSh.o72 S, CSh.o73 S, CSh.o89 S, CSh.o90 S, CSh.o91 S, CSh.l1 S, CSh.l3 S, CSh.l27 S, CSh.l29 S, CSh.l30 S, CSh.l56 S, CSh.l57 S, CSh.l58 S, CSh.l75 S, CSh.l77 S, CSh.l79 S, CSh.l81 S, CSh.l82 S, CSh.l83 S, CSh.l84 S, CSh.l85 S, CSh.l86 S, CSh.l87 S, CSh.l88 S, CSh.l54 S, CSh.l55 S, CSh.l60 S, CSh.l61 S, CSh.l64 S, CSh.l65 S, CSh.l68 S, CSh.l69 S, CSh.l72 S, CSh.l73 S, CSh.l90 S, CSh.l91 S, CSh.p0_0 S, CSh.p0_3 S, CSh.p0_4 S, CSh.p0_5 S, CSh.p0_6 S, CSh.p0_7 S, CSh.p0_8 S, CSh.p0_9 S, CSh.p0_10 S, CSh.p0_14 S, CSh.p2_0 S, CSh.p26_0 S, CSh.p26_13 S, CSh.p26_14 S, CSh.p31_1 S, CSh.p31_3 S, CSh.p31_4 S, CSh.p62_0 S, CSh.p66_0 S, CSh.p70_0 S, CSh.p74_0 S, CSh.p74_1 S, CSh.p74_6 S, CSh.p74_7 S, CSh.p74_10 S, CSh.p80_1 S, CSh.p80_2 S, CSh.p80_3 S, CSh.p80_4 S, CSh.p80_5 S, CSh.p80_6 S, CSh.p80_7 S, CSh.p80_8 S, CSh.p53_1 S, CSh.p53_2 S, CSh.p59_1 S, CSh.p59_2 S, CSh.p63_1 S, CSh.p63_2 S, CSh.p67_1 S, CSh.p67_2 S, CSh.p71_1 S, CSh.p71_2 S, CSh.p89_1 S, CSh.p89_2 S, fd0, fd1, fd2, fd3, fd4, fd5, fd6, fd7, fd8, fd9, fd10, fd11, fd12, fd13, fd14, fd15, fd16, fd17, fd18, fd19, fd20, fd21, fd22, fd23, fd24, fd25, fd26, fd27, fd28, fd29, fd30, fd31, fd32, fd33, fd34, fd35, fd36, fd37, fd38, fd39, fd40, fd41, fd42, fd43, fd44, fd45, fd46, fd47, fd48, fd49, fd50, fd51, fd52, -Int.reduceToNat, -Int32.reduceToNatClampNeg, il0, il1, il2, il3, il4, il5, il6, il7, il8, il9, il10, il11, il12, il13, il14, il15, il16, il17, il18, il19, il20, il21, il22, il23, il24, il25, il26, il27, il28, il29, il30, il31, il32, il35, il36, il38, il40, il42, il43, il44, il45, il46, il47, il48, il49, il50, il51, il52, il57, il59, il60, il63, il64, il75, il80, il95, il96, il97, il98, il99, il100, il120, il122, il123, il127, il128, il135, il167, il175, il225, il249, il250, il255, il256, il360, il370, il384, il600, il700, il740, il900, il940, il1024, il1600, il4800, il64000, il125000, il262143, il1000000000, iI_toInt, iI_add, iI_sub, iI_mul, iI_neg, iI_lt, iI_le, iI_eq, iI_n, iI_in, iI_div, iI_mod, iI_shm, iI_and1, iI_and7, iI_and63, iI_shr3, iI_shr6, rd_I, ob, Option.some.injEq, exists_eq_left', exists_eq_left, true_and, and_true, fqI, fqJ, eq_self, true_or, or_true, bP_0, bP_0i, npP, bP_1i, bP_b, not_true_eq_false, not_false_eq_true, false_implies, true_implies, implies_true, Classical.not_not, and_self]
  rcases A with ⟨a1, a2, a3⟩ | ⟨a1, a2, a3, a4⟩
  · rw [a3]; rw [ite_f (by omega)] at k; exact k
  · rw [a3]; rw [ite_t (by omega)] at k; exact k
theorem mX_left (I : Inv h i la fr qa ac) (k : ∀ h', Qt h h' → post h' (iI (iteP (0 ≤ rd h 92 48) (rd h 92 49) (-1)))) : wp_X12_left h 92 post := by
  unfold wp_X12_left
  refine ⟨I.m.o0, fun h1 e1 => ?_⟩
  obtain ⟨I1, q1, es, -⟩ := I.thr e1
  have k := k h1 q1
  rw [← q1.2.1 48 (by decide), ← q1.2.1 49 (by decide)] at k
  have M := I1.m
  have bb := rd_bd h1 92 48
  simp (disch := omega) only [MSh.o0 M, MSh.p1 M, MSh.o1 M, MSh.l1 M, MSh.p6 M, MSh.o2 M, MSh.l2 M, MSh.p7 M, MSh.o3 M, MSh.l3 M, MSh.p8 M, MSh.o4 M, MSh.l4 M, MSh.p9 M, MSh.o5 M, MSh.l5 M, MSh.p10 M, MSh.o6 M, MSh.l6 M, MSh.p24 M, MSh.o7 M, MSh.l7 M, MSh.p25 M, MSh.o8 M, MSh.l8 M, MSh.p26 M, MSh.o9 M, MSh.l9 M, MSh.p32 M, MSh.o10 M, MSh.l10 M, MSh.p33 M, MSh.o11 M, MSh.l11 M, MSh.p35 M, MSh.o12 M, MSh.l12 M, MSh.p36 M, MSh.o13 M, MSh.l13 M, MSh.p37 M, MSh.o14 M, MSh.l14 M, MSh.p38 M, MSh.o15 M, MSh.l15 M, MSh.p39 M, MSh.o16 M, MSh.l16 M, MSh.p42 M, MSh.o17 M, MSh.l17 M, MSh.p43 M, MSh.o18 M, MSh.l18 M, MSh.p44 M, MSh.o19 M, MSh.l19 M, MSh.p45 M, MSh.o20 M, MSh.l20 M, MSh.p46 M, MSh.o21 M, MSh.l21 M, MSh.p47 M, MSh.o22 M, MSh.l22 M, MSh.p50 M, MSh.o23 M, MSh.l23 M, MSh.p51 M, MSh.o24 M, MSh.l24 M, MSh.p52 M, MSh.o25 M, MSh.l25 M, fd0, fd1, fd2, fd3, fd4, fd5, fd6, fd7, fd8, fd9, fd10, fd11, fd12, fd13, fd14, fd15, fd16, fd17, fd18, fd19, fd20, fd21, fd22, fd23, fd24, fd25, fd26, fd27, fd28, fd29, fd30, fd31, fd32, fd33, fd34, fd35, fd36, fd37, fd38, fd39, fd40, fd41, fd42, fd43, fd44, fd45, fd46, fd47, fd48, fd49, fd50, fd51, fd52, -Int.reduceToNat, -Int32.reduceToNatClampNeg, il0, il1, il2, il3, il4, il5, il6, il7, il8, il9, il10, il11, il12, il13, il14, il15, il16, il17, il18, il19, il20, il21, il22, il23, il24, il25, il26, il27, il28, il29, il30, il31, il32, il35, il36, il38, il40, il42, il43, il44, il45, il46, il47, il48, il49, il50, il51, il52, il57, il59, il60, il63, il64, il75, il80, il95, il96, il97, il98, il99, il100, il120, il122, il123, il127, il128, il135, il167, il175, il225, il249, il250, il255, il256, il360, il370, il384, il600, il700, il740, il900, il940, il1024, il1600, il4800, il64000, il125000, il262143, il1000000000, iI_toInt, iI_add, iI_sub, iI_mul, iI_neg, iI_lt, iI_le, iI_eq, iI_n, iI_in, iI_div, iI_mod, iI_shm, iI_and1, iI_and7, iI_and63, iI_shr3, iI_shr6, rd_I, ob, Option.some.injEq, exists_eq_left', exists_eq_left, true_and, and_true, fqI, fqJ, eq_self, true_or, or_true, bP_0, bP_0i, npP, bP_1i, bP_b, not_true_eq_false, not_false_eq_true, false_implies, true_implies, implies_true, Classical.not_not, and_self, cP, cP', ite_n]
  by_cases c : 0 ≤ rd h1 92 48
  · rw [ite_t c]; rw [ite_t c] at k; exact k
  · rw [ite_f c]; rw [ite_f c] at k; exact k
theorem cX_judged (I : Inv h i la fr qa ac) (h3 : -2147483648 ≤ w) (h4 : w < 2147483648) (k : post h (iI (iteP (0 ≤ rd h 92 34 ∧ 0 ≤ w ∧ w ≤ 4) (rd h 102 w) (-1)))) : wp_X11_judged h 0 (iI w) post := by
  have S := I.s
  have A : IvJ h := I.2.2.2.2.2.2.2.2.2.2.2.2.1
  have bb := rd_bd h 0 11
  unfold wp_X11_judged
  simp (disch := omega) only [CSh.o0 S, CSh.o1 S, CSh.o2 S, CSh.o3 S, CSh.o26 S, CSh.o27 S, CSh.o29 S, CSh.o30 S, CSh.o31 S, CSh.o56 S, CSh.o57 S, CSh.o58 S, CSh.o62 S, CSh.o66 S, CSh.o70 S, CSh.o74 S, CSh.o75 S, CSh.o77 S, CSh.o79 S, CSh.o80 S, CSh.o81 S, CSh.o82 S, CSh.o83 S, CSh.o84 S, CSh.o85 S, CSh.o86 S, CSh.o87 S, CSh.o88 S, CSh.o53 S, CSh.o54 S, CSh.o55 S, CSh.o59 S, CSh.o60 S, CSh.o61 S, CSh.o63 S, CSh.o64 S, CSh.o65 S, CSh.o67 S, CSh.o68 S, CSh.o69 S, CSh.o71 S, CSh.o72 S, CSh.o73 S, CSh.o89 S, CSh.o90 S, CSh.o91 S, CSh.l1 S, CSh.l3 S, CSh.l27 S, CSh.l29 S, CSh.l30 S, CSh.l56 S, CSh.l57 S, CSh.l58 S, CSh.l75 S, CSh.l77 S, CSh.l79 S, CSh.l81 S, CSh.l82 S, CSh.l83 S, CSh.l84 S, CSh.l85 S, CSh.l86 S, CSh.l87 S, CSh.l88 S, CSh.l54 S, CSh.l55 S, CSh.l60 S, CSh.l61 S, CSh.l64 S, CSh.l65 S, CSh.l68 S, CSh.l69 S, CSh.l72 S, CSh.l73 S, CSh.l90 S, CSh.l91 S, CSh.p0_0 S, CSh.p0_3 S, CSh.p0_4 S, CSh.p0_5 S, CSh.p0_6 S, CSh.p0_7 S, CSh.p0_8 S, CSh.p0_9 S, CSh.p0_10 S, CSh.p0_14 S, CSh.p2_0 S, CSh.p26_0 S, CSh.p26_13 S, CSh.p26_14 S, CSh.p31_1 S, CSh.p31_3 S, CSh.p31_4 S, CSh.p62_0 S, CSh.p66_0 S, CSh.p70_0 S, CSh.p74_0 S, CSh.p74_1 S, CSh.p74_6 S, CSh.p74_7 S, CSh.p74_10 S, CSh.p80_1 S, CSh.p80_2 S, CSh.p80_3 S, CSh.p80_4 S, CSh.p80_5 S, CSh.p80_6 S, CSh.p80_7 S, CSh.p80_8 S, CSh.p53_1 S, CSh.p53_2 S, CSh.p59_1 S, CSh.p59_2 S, CSh.p63_1 S, CSh.p63_2 S, CSh.p67_1 S, CSh.p67_2 S, CSh.p71_1 S, CSh.p71_2 S, CSh.p89_1 S, CSh.p89_2 S, fd0, fd1, fd2, fd3, fd4, fd5, fd6, fd7, fd8, fd9, fd10, fd11, fd12, fd13, fd14, fd15, fd16, fd17, fd18, fd19, fd20, fd21, fd22, fd23, fd24, fd25, fd26, fd27, fd28, fd29, fd30, fd31, fd32, fd33, fd34, fd35, fd36, fd37, fd38, fd39, fd40, fd41, fd42, fd43, fd44, fd45, fd46, fd47, fd48, fd49, fd50, fd51, fd52, -Int.reduceToNat, -Int32.reduceToNatClampNeg, il0, il1, il2, il3, il4, il5, il6, il7, il8, il9, il10, il11, il12, il13, il14, il15, il16, il17, il18, il19, il20, il21, il22, il23, il24, il25, il26, il27, il28, il29, il30, il31, il32, il35, il36, il38, il40, il42, il43, il44, il45, il46, il47, il48, il49, il50, il51, il52, il57, il59, il60, il63, il64, il75, il80, il95, il96, il97, il98, il99, il100, il120, il122, il123, il127, il128, il135, il167, il175, il225, il249, il250, il255, il256, il360, il370, il384, il600, il700, il740, il900, il940, il1024, il1600, il4800, il64000, il125000, il262143, il1000000000, iI_toInt, iI_add, iI_sub, iI_mul, iI_neg, iI_lt, iI_le, iI_eq, iI_n, iI_in, iI_div, iI_mod, iI_shm, iI_and1, iI_and7, iI_and63, iI_shr3, iI_shr6, rd_I, ob, Option.some.injEq, exists_eq_left', exists_eq_left, true_and, and_true, fqI, fqJ, eq_self, true_or, or_true, bP_0, bP_0i, npP, bP_1i, bP_b, not_true_eq_false, not_false_eq_true, false_implies, true_implies, implies_true, Classical.not_not, and_self, cP, cP', ite_n]
  rcases A with ⟨a1, a2⟩ | ⟨a1, a2, a3, a4, a5, a6, a7, a8, -⟩
  · rw [a1, ite_t rfl]; rw [ite_f (by omega)] at k; exact k
  rw [a1, ite_f (by omega), a4, a5, a6, a7, a8]
  refine ⟨fun q => ?_, fun q => ?_, fun q => ?_, fun q => ?_, fun q => ?_, fun q => ?_⟩
  · rw [ite_t (by omega), q] at k; exact k
  · rw [ite_t (by omega), q] at k; exact k
  · rw [ite_t (by omega), q] at k; exact k
  · rw [ite_t (by omega), q] at k; exact k
  · rw [ite_t (by omega), q] at k; exact k
  · rw [ite_f (by omega)] at k; exact k
theorem mX_judged (I : Inv h i la fr qa ac) (h3 : -2147483648 ≤ w) (h4 : w < 2147483648) (k : ∀ h', Qt h h' → post h' (iI (iteP (0 ≤ rd h 92 34 ∧ 0 ≤ w ∧ w ≤ 4) (rd h 102 w) (-1)))) : wp_X12_judged h 92 (iI w) post := by
  unfold wp_X12_judged
  refine ⟨I.m.o0, fun h1 e1 => ?_⟩
  obtain ⟨I1, q1, es, -⟩ := I.thr e1
  have k := k h1 q1
  rw [← q1.2.1 34 (by decide), ← q1.1.row (a := 102) (by decide)] at k
  have M := I1.m
  have bb := rd_bd h1 92 34
  simp (disch := omega) only [MSh.o0 M, MSh.p1 M, MSh.o1 M, MSh.l1 M, MSh.p6 M, MSh.o2 M, MSh.l2 M, MSh.p7 M, MSh.o3 M, MSh.l3 M, MSh.p8 M, MSh.o4 M, MSh.l4 M, MSh.p9 M, MSh.o5 M, MSh.l5 M, MSh.p10 M, MSh.o6 M, MSh.l6 M, MSh.p24 M, MSh.o7 M, MSh.l7 M, MSh.p25 M, MSh.o8 M, MSh.l8 M, MSh.p26 M, MSh.o9 M, MSh.l9 M, MSh.p32 M, MSh.o10 M, MSh.l10 M, MSh.p33 M, MSh.o11 M, MSh.l11 M, MSh.p35 M, MSh.o12 M, MSh.l12 M, MSh.p36 M, MSh.o13 M, MSh.l13 M, MSh.p37 M, MSh.o14 M, MSh.l14 M, MSh.p38 M, MSh.o15 M, MSh.l15 M, MSh.p39 M, MSh.o16 M, MSh.l16 M, MSh.p42 M, MSh.o17 M, MSh.l17 M, MSh.p43 M, MSh.o18 M, MSh.l18 M, MSh.p44 M, MSh.o19 M, MSh.l19 M, MSh.p45 M, MSh.o20 M, MSh.l20 M, MSh.p46 M, MSh.o21 M, MSh.l21 M, MSh.p47 M, MSh.o22 M, MSh.l22 M, MSh.p50 M, MSh.o23 M, MSh.l23 M, MSh.p51 M, MSh.o24 M, MSh.l24 M, MSh.p52 M, MSh.o25 M, MSh.l25 M, fd0, fd1, fd2, fd3, fd4, fd5, fd6, fd7, fd8, fd9, fd10, fd11, fd12, fd13, fd14, fd15, fd16, fd17, fd18, fd19, fd20, fd21, fd22, fd23, fd24, fd25, fd26, fd27, fd28, fd29, fd30, fd31, fd32, fd33, fd34, fd35, fd36, fd37, fd38, fd39, fd40, fd41, fd42, fd43, fd44, fd45, fd46, fd47, fd48, fd49, fd50, fd51, fd52, -Int.reduceToNat, -Int32.reduceToNatClampNeg, il0, il1, il2, il3, il4, il5, il6, il7, il8, il9, il10, il11, il12, il13, il14, il15, il16, il17, il18, il19, il20, il21, il22, il23, il24, il25, il26, il27, il28, il29, il30, il31, il32, il35, il36, il38, il40, il42, il43, il44, il45, il46, il47, il48, il49, il50, il51, il52, il57, il59, il60, il63, il64, il75, il80, il95, il96, il97, il98, il99, il100, il120, il122, il123, il127, il128, il135, il167, il175, il225, il249, il250, il255, il256, il360, il370, il384, il600, il700, il740, il900, il940, il1024, il1600, il4800, il64000, il125000, il262143, il1000000000, iI_toInt, iI_add, iI_sub, iI_mul, iI_neg, iI_lt, iI_le, iI_eq, iI_n, iI_in, iI_div, iI_mod, iI_shm, iI_and1, iI_and7, iI_and63, iI_shr3, iI_shr6, rd_I, ob, Option.some.injEq, exists_eq_left', exists_eq_left, true_and, and_true, fqI, fqJ, eq_self, true_or, or_true, bP_0, bP_0i, npP, bP_1i, bP_b, not_true_eq_false, not_false_eq_true, false_implies, true_implies, implies_true, Classical.not_not, and_self, cP, cP', ite_n, m_isIn]
  by_cases c : rd h1 92 34 < 0
  · rw [ite_t c]; rw [ite_f (by omega)] at k; exact k
  rw [ite_f c]
  by_cases c2 : 0 ≤ w ∧ w ≤ 4
  · rw [ite_t c2]; rw [ite_t (by omega)] at k
    simp (disch := omega) only [MSh.o0 M, MSh.p1 M, MSh.o1 M, MSh.l1 M, MSh.p6 M, MSh.o2 M, MSh.l2 M, MSh.p7 M, MSh.o3 M, MSh.l3 M, MSh.p8 M, MSh.o4 M, MSh.l4 M, MSh.p9 M, MSh.o5 M, MSh.l5 M, MSh.p10 M, MSh.o6 M, MSh.l6 M, MSh.p24 M, MSh.o7 M, MSh.l7 M, MSh.p25 M, MSh.o8 M, MSh.l8 M, MSh.p26 M, MSh.o9 M, MSh.l9 M, MSh.p32 M, MSh.o10 M, MSh.l10 M, MSh.p33 M, MSh.o11 M, MSh.l11 M, MSh.p35 M, MSh.o12 M, MSh.l12 M, MSh.p36 M, MSh.o13 M, MSh.l13 M, MSh.p37 M, MSh.o14 M, MSh.l14 M, MSh.p38 M, MSh.o15 M, MSh.l15 M, MSh.p39 M, MSh.o16 M, MSh.l16 M, MSh.p42 M, MSh.o17 M, MSh.l17 M, MSh.p43 M, MSh.o18 M, MSh.l18 M, MSh.p44 M, MSh.o19 M, MSh.l19 M, MSh.p45 M, MSh.o20 M, MSh.l20 M, MSh.p46 M, MSh.o21 M, MSh.l21 M, MSh.p47 M, MSh.o22 M, MSh.l22 M, MSh.p50 M, MSh.o23 M, MSh.l23 M, MSh.p51 M, MSh.o24 M, MSh.l24 M, MSh.p52 M, MSh.o25 M, MSh.l25 M, fd0, fd1, fd2, fd3, fd4, fd5, fd6, fd7, fd8, fd9, fd10, fd11, fd12, fd13, fd14, fd15, fd16, fd17, fd18, fd19, fd20, fd21, fd22, fd23, fd24, fd25, fd26, fd27, fd28, fd29, fd30, fd31, fd32, fd33, fd34, fd35, fd36, fd37, fd38, fd39, fd40, fd41, fd42, fd43, fd44, fd45, fd46, fd47, fd48, fd49, fd50, fd51, fd52, -Int.reduceToNat, -Int32.reduceToNatClampNeg, il0, il1, il2, il3, il4, il5, il6, il7, il8, il9, il10, il11, il12, il13, il14, il15, il16, il17, il18, il19, il20, il21, il22, il23, il24, il25, il26, il27, il28, il29, il30, il31, il32, il35, il36, il38, il40, il42, il43, il44, il45, il46, il47, il48, il49, il50, il51, il52, il57, il59, il60, il63, il64, il75, il80, il95, il96, il97, il98, il99, il100, il120, il122, il123, il127, il128, il135, il167, il175, il225, il249, il250, il255, il256, il360, il370, il384, il600, il700, il740, il900, il940, il1024, il1600, il4800, il64000, il125000, il262143, il1000000000, iI_toInt, iI_add, iI_sub, iI_mul, iI_neg, iI_lt, iI_le, iI_eq, iI_n, iI_in, iI_div, iI_mod, iI_shm, iI_and1, iI_and7, iI_and63, iI_shr3, iI_shr6, rd_I, ob, Option.some.injEq, exists_eq_left', exists_eq_left, true_and, and_true, fqI, fqJ, eq_self, true_or, or_true, bP_0, bP_0i, npP, bP_1i, bP_b, not_true_eq_false, not_false_eq_true, false_implies, true_implies, implies_true, Classical.not_not, and_self]
    exact k
  · rw [ite_f c2]; rw [ite_f (by omega)] at k; exact k
theorem cX_judgedAt (I : Inv h i la fr qa ac) (hr1 : -2147483648 ≤ r) (hr2 : r < 2147483648) (h3 : -2147483648 ≤ w) (h4 : w < 2147483648) (k : post h (iI (iteP (0 ≤ r ∧ r < rd h 92 34) (partV (rd h 103) r w) (-1)))) : wp_X11_judgedAt h 0 (iI r) (iI w) post := by
  have S := I.s
  have A : IvJ h := I.2.2.2.2.2.2.2.2.2.2.2.2.1
  have bb := rd_bd h 0 11
  have b2 := rd_bd h 0 12
  unfold wp_X11_judgedAt
  simp (disch := omega) only [CSh.o0 S, CSh.o1 S, CSh.o2 S, CSh.o3 S, CSh.o26 S, CSh.o27 S, CSh.o29 S, CSh.o30 S, CSh.o31 S, CSh.o56 S, CSh.o57 S, CSh.o58 S, CSh.o62 S, CSh.o66 S, CSh.o70 S, CSh.o74 S, CSh.o75 S, CSh.o77 S, CSh.o79 S, CSh.o80 S, CSh.o81 S, CSh.o82 S, CSh.o83 S, CSh.o84 S, CSh.o85 S, CSh.o86 S, CSh.o87 S, CSh.o88 S, CSh.o53 S, CSh.o54 S, CSh.o55 S, CSh.o59 S, CSh.o60 S, CSh.o61 S, CSh.o63 S, CSh.o64 S, CSh.o65 S, CSh.o67 S, CSh.o68 S, CSh.o69 S, CSh.o71 S, CSh.o72 S, CSh.o73 S, CSh.o89 S, CSh.o90 S, CSh.o91 S, CSh.l1 S, CSh.l3 S, CSh.l27 S, CSh.l29 S, CSh.l30 S, CSh.l56 S, CSh.l57 S, CSh.l58 S, CSh.l75 S, CSh.l77 S, CSh.l79 S, CSh.l81 S, CSh.l82 S, CSh.l83 S, CSh.l84 S, CSh.l85 S, CSh.l86 S, CSh.l87 S, CSh.l88 S, CSh.l54 S, CSh.l55 S, CSh.l60 S, CSh.l61 S, CSh.l64 S, CSh.l65 S, CSh.l68 S, CSh.l69 S, CSh.l72 S, CSh.l73 S, CSh.l90 S, CSh.l91 S, CSh.p0_0 S, CSh.p0_3 S, CSh.p0_4 S, CSh.p0_5 S, CSh.p0_6 S, CSh.p0_7 S, CSh.p0_8 S, CSh.p0_9 S, CSh.p0_10 S, CSh.p0_14 S, CSh.p2_0 S, CSh.p26_0 S, CSh.p26_13 S, CSh.p26_14 S, CSh.p31_1 S, CSh.p31_3 S, CSh.p31_4 S, CSh.p62_0 S, CSh.p66_0 S, CSh.p70_0 S, CSh.p74_0 S, CSh.p74_1 S, CSh.p74_6 S, CSh.p74_7 S, CSh.p74_10 S, CSh.p80_1 S, CSh.p80_2 S, CSh.p80_3 S, CSh.p80_4 S, CSh.p80_5 S, CSh.p80_6 S, CSh.p80_7 S, CSh.p80_8 S, CSh.p53_1 S, CSh.p53_2 S, CSh.p59_1 S, CSh.p59_2 S, CSh.p63_1 S, CSh.p63_2 S, CSh.p67_1 S, CSh.p67_2 S, CSh.p71_1 S, CSh.p71_2 S, CSh.p89_1 S, CSh.p89_2 S, fd0, fd1, fd2, fd3, fd4, fd5, fd6, fd7, fd8, fd9, fd10, fd11, fd12, fd13, fd14, fd15, fd16, fd17, fd18, fd19, fd20, fd21, fd22, fd23, fd24, fd25, fd26, fd27, fd28, fd29, fd30, fd31, fd32, fd33, fd34, fd35, fd36, fd37, fd38, fd39, fd40, fd41, fd42, fd43, fd44, fd45, fd46, fd47, fd48, fd49, fd50, fd51, fd52, -Int.reduceToNat, -Int32.reduceToNatClampNeg, il0, il1, il2, il3, il4, il5, il6, il7, il8, il9, il10, il11, il12, il13, il14, il15, il16, il17, il18, il19, il20, il21, il22, il23, il24, il25, il26, il27, il28, il29, il30, il31, il32, il35, il36, il38, il40, il42, il43, il44, il45, il46, il47, il48, il49, il50, il51, il52, il57, il59, il60, il63, il64, il75, il80, il95, il96, il97, il98, il99, il100, il120, il122, il123, il127, il128, il135, il167, il175, il225, il249, il250, il255, il256, il360, il370, il384, il600, il700, il740, il900, il940, il1024, il1600, il4800, il64000, il125000, il262143, il1000000000, iI_toInt, iI_add, iI_sub, iI_mul, iI_neg, iI_lt, iI_le, iI_eq, iI_n, iI_in, iI_div, iI_mod, iI_shm, iI_and1, iI_and7, iI_and63, iI_shr3, iI_shr6, rd_I, ob, Option.some.injEq, exists_eq_left', exists_eq_left, true_and, and_true, fqI, fqJ, eq_self, true_or, or_true, bP_0, bP_0i, npP, bP_1i, bP_b, not_true_eq_false, not_false_eq_true, false_implies, true_implies, implies_true, Classical.not_not, and_self, cP, cP', ite_n]
  rcases A with ⟨a1, a2⟩ | ⟨a1, a2, a3, a4, a5, a6, a7, a8, a9⟩
  · rw [a1, ite_t rfl]; rw [ite_f (by omega)] at k; exact k
  rw [a1, ite_f (by omega), a3]
  by_cases c1 : r < 0
  · rw [ite_t c1]; rw [ite_f (by omega)] at k; exact k
  rw [ite_f c1]
  by_cases c2 : r < rd h 92 34
  · rw [ite_t c2]; rw [ite_t (by omega)] at k
    obtain ⟨e1, e2⟩ := a9 r (by omega) c2
    simp (disch := omega) only [CSh.o0 S, CSh.o1 S, CSh.o2 S, CSh.o3 S, CSh.o26 S, CSh.o27 S, CSh.o29 S, CSh.o30 S, CSh.o31 S, CSh.o56 S, CSh.o57 S, CSh.o58 S, CSh.o62 S, CSh.o66 S, CSh.o70 S, CSh.o74 S, CSh.o75 S, CSh.o77 S, CSh.o79 S, CSh.o80 S, CSh.o81 S, CSh.o82 S, CSh.o83 S, CSh.o84 S, CSh.o85 S, CSh.o86 S, CSh.o87 S, CSh.o88 S, CSh.o53 S, CSh.o54 S, CSh.o55 S, CSh.o59 S, CSh.o60 S, CSh.o61 S, CSh.o63 S, CSh.o64 S, CSh.o65 S, CSh.o67 S, CSh.o68 S, CSh.o69 S, CSh.o71 S, CSh.o72 S, CSh.o73 S, CSh.o89 S, CSh.o90 S, CSh.o91 S, CSh.l1 S, CSh.l3 S, CSh.l27 S, CSh.l29 S, CSh.l30 S, CSh.l56 S, CSh.l57 S, CSh.l58 S, CSh.l75 S, CSh.l77 S, CSh.l79 S, CSh.l81 S, CSh.l82 S, CSh.l83 S, CSh.l84 S, CSh.l85 S, CSh.l86 S, CSh.l87 S, CSh.l88 S, CSh.l54 S, CSh.l55 S, CSh.l60 S, CSh.l61 S, CSh.l64 S, CSh.l65 S, CSh.l68 S, CSh.l69 S, CSh.l72 S, CSh.l73 S, CSh.l90 S, CSh.l91 S, CSh.p0_0 S, CSh.p0_3 S, CSh.p0_4 S, CSh.p0_5 S, CSh.p0_6 S, CSh.p0_7 S, CSh.p0_8 S, CSh.p0_9 S, CSh.p0_10 S, CSh.p0_14 S, CSh.p2_0 S, CSh.p26_0 S, CSh.p26_13 S, CSh.p26_14 S, CSh.p31_1 S, CSh.p31_3 S, CSh.p31_4 S, CSh.p62_0 S, CSh.p66_0 S, CSh.p70_0 S, CSh.p74_0 S, CSh.p74_1 S, CSh.p74_6 S, CSh.p74_7 S, CSh.p74_10 S, CSh.p80_1 S, CSh.p80_2 S, CSh.p80_3 S, CSh.p80_4 S, CSh.p80_5 S, CSh.p80_6 S, CSh.p80_7 S, CSh.p80_8 S, CSh.p53_1 S, CSh.p53_2 S, CSh.p59_1 S, CSh.p59_2 S, CSh.p63_1 S, CSh.p63_2 S, CSh.p67_1 S, CSh.p67_2 S, CSh.p71_1 S, CSh.p71_2 S, CSh.p89_1 S, CSh.p89_2 S, fd0, fd1, fd2, fd3, fd4, fd5, fd6, fd7, fd8, fd9, fd10, fd11, fd12, fd13, fd14, fd15, fd16, fd17, fd18, fd19, fd20, fd21, fd22, fd23, fd24, fd25, fd26, fd27, fd28, fd29, fd30, fd31, fd32, fd33, fd34, fd35, fd36, fd37, fd38, fd39, fd40, fd41, fd42, fd43, fd44, fd45, fd46, fd47, fd48, fd49, fd50, fd51, fd52, -Int.reduceToNat, -Int32.reduceToNatClampNeg, il0, il1, il2, il3, il4, il5, il6, il7, il8, il9, il10, il11, il12, il13, il14, il15, il16, il17, il18, il19, il20, il21, il22, il23, il24, il25, il26, il27, il28, il29, il30, il31, il32, il35, il36, il38, il40, il42, il43, il44, il45, il46, il47, il48, il49, il50, il51, il52, il57, il59, il60, il63, il64, il75, il80, il95, il96, il97, il98, il99, il100, il120, il122, il123, il127, il128, il135, il167, il175, il225, il249, il250, il255, il256, il360, il370, il384, il600, il700, il740, il900, il940, il1024, il1600, il4800, il64000, il125000, il262143, il1000000000, iI_toInt, iI_add, iI_sub, iI_mul, iI_neg, iI_lt, iI_le, iI_eq, iI_n, iI_in, iI_div, iI_mod, iI_shm, iI_and1, iI_and7, iI_and63, iI_shr3, iI_shr6, rd_I, ob, Option.some.injEq, exists_eq_left', exists_eq_left, true_and, and_true, fqI, fqJ, eq_self, true_or, or_true, bP_0, bP_0i, npP, bP_1i, bP_b, not_true_eq_false, not_false_eq_true, false_implies, true_implies, implies_true, Classical.not_not, and_self, e1]
    exact c_part e2 h3 h4 k
  · rw [ite_f c2]; rw [ite_f (by omega)] at k; exact k
theorem mX_judgedAt (I : Inv h i la fr qa ac) (hr1 : -2147483648 ≤ r) (hr2 : r < 2147483648) (h3 : -2147483648 ≤ w) (h4 : w < 2147483648) (k : ∀ h', Qt h h' → post h' (iI (iteP (0 ≤ r ∧ r < rd h 92 34) (partV (rd h 103) r w) (-1)))) : wp_X12_judgedAt h 92 (iI r) (iI w) post := by
  unfold wp_X12_judgedAt
  refine ⟨I.m.o0, fun h1 e1 => ?_⟩
  obtain ⟨I1, q1, es, -⟩ := I.thr e1
  have k := k h1 q1
  rw [← q1.2.1 34 (by decide), ← q1.1.row (a := 103) (by decide)] at k
  have M := I1.m
  have A : IvJ h1 := I1.2.2.2.2.2.2.2.2.2.2.2.2.1
  have bb : -1 ≤ rd h1 92 34 ∧ rd h1 92 34 ≤ 8 := by rcases A with ⟨-, a1⟩ | ⟨-, a1, -⟩ <;> omega
  simp (disch := omega) only [MSh.o0 M, MSh.p1 M, MSh.o1 M, MSh.l1 M, MSh.p6 M, MSh.o2 M, MSh.l2 M, MSh.p7 M, MSh.o3 M, MSh.l3 M, MSh.p8 M, MSh.o4 M, MSh.l4 M, MSh.p9 M, MSh.o5 M, MSh.l5 M, MSh.p10 M, MSh.o6 M, MSh.l6 M, MSh.p24 M, MSh.o7 M, MSh.l7 M, MSh.p25 M, MSh.o8 M, MSh.l8 M, MSh.p26 M, MSh.o9 M, MSh.l9 M, MSh.p32 M, MSh.o10 M, MSh.l10 M, MSh.p33 M, MSh.o11 M, MSh.l11 M, MSh.p35 M, MSh.o12 M, MSh.l12 M, MSh.p36 M, MSh.o13 M, MSh.l13 M, MSh.p37 M, MSh.o14 M, MSh.l14 M, MSh.p38 M, MSh.o15 M, MSh.l15 M, MSh.p39 M, MSh.o16 M, MSh.l16 M, MSh.p42 M, MSh.o17 M, MSh.l17 M, MSh.p43 M, MSh.o18 M, MSh.l18 M, MSh.p44 M, MSh.o19 M, MSh.l19 M, MSh.p45 M, MSh.o20 M, MSh.l20 M, MSh.p46 M, MSh.o21 M, MSh.l21 M, MSh.p47 M, MSh.o22 M, MSh.l22 M, MSh.p50 M, MSh.o23 M, MSh.l23 M, MSh.p51 M, MSh.o24 M, MSh.l24 M, MSh.p52 M, MSh.o25 M, MSh.l25 M, fd0, fd1, fd2, fd3, fd4, fd5, fd6, fd7, fd8, fd9, fd10, fd11, fd12, fd13, fd14, fd15, fd16, fd17, fd18, fd19, fd20, fd21, fd22, fd23, fd24, fd25, fd26, fd27, fd28, fd29, fd30, fd31, fd32, fd33, fd34, fd35, fd36, fd37, fd38, fd39, fd40, fd41, fd42, fd43, fd44, fd45, fd46, fd47, fd48, fd49, fd50, fd51, fd52, -Int.reduceToNat, -Int32.reduceToNatClampNeg, il0, il1, il2, il3, il4, il5, il6, il7, il8, il9, il10, il11, il12, il13, il14, il15, il16, il17, il18, il19, il20, il21, il22, il23, il24, il25, il26, il27, il28, il29, il30, il31, il32, il35, il36, il38, il40, il42, il43, il44, il45, il46, il47, il48, il49, il50, il51, il52, il57, il59, il60, il63, il64, il75, il80, il95, il96, il97, il98, il99, il100, il120, il122, il123, il127, il128, il135, il167, il175, il225, il249, il250, il255, il256, il360, il370, il384, il600, il700, il740, il900, il940, il1024, il1600, il4800, il64000, il125000, il262143, il1000000000, iI_toInt, iI_add, iI_sub, iI_mul, iI_neg, iI_lt, iI_le, iI_eq, iI_n, iI_in, iI_div, iI_mod, iI_shm, iI_and1, iI_and7, iI_and63, iI_shr3, iI_shr6, rd_I, ob, Option.some.injEq, exists_eq_left', exists_eq_left, true_and, and_true, fqI, fqJ, eq_self, true_or, or_true, bP_0, bP_0i, npP, bP_1i, bP_b, not_true_eq_false, not_false_eq_true, false_implies, true_implies, implies_true, Classical.not_not, and_self, cP, cP', ite_n, m_isIn]
  by_cases c : 0 ≤ r ∧ r ≤ rd h1 92 34 - 1
  case neg => rw [ite_f c]; rw [ite_f (by omega)] at k; exact k
  rw [ite_t c]; rw [ite_t (by omega)] at k
  unfold partV at k
  by_cases c2 : 0 ≤ w ∧ w ≤ 2
  case neg => rw [ite_f c2]; rw [if_neg c2] at k; exact k
  rw [ite_t c2]; rw [if_pos c2] at k
  simp (disch := omega) only [MSh.o0 M, MSh.p1 M, MSh.o1 M, MSh.l1 M, MSh.p6 M, MSh.o2 M, MSh.l2 M, MSh.p7 M, MSh.o3 M, MSh.l3 M, MSh.p8 M, MSh.o4 M, MSh.l4 M, MSh.p9 M, MSh.o5 M, MSh.l5 M, MSh.p10 M, MSh.o6 M, MSh.l6 M, MSh.p24 M, MSh.o7 M, MSh.l7 M, MSh.p25 M, MSh.o8 M, MSh.l8 M, MSh.p26 M, MSh.o9 M, MSh.l9 M, MSh.p32 M, MSh.o10 M, MSh.l10 M, MSh.p33 M, MSh.o11 M, MSh.l11 M, MSh.p35 M, MSh.o12 M, MSh.l12 M, MSh.p36 M, MSh.o13 M, MSh.l13 M, MSh.p37 M, MSh.o14 M, MSh.l14 M, MSh.p38 M, MSh.o15 M, MSh.l15 M, MSh.p39 M, MSh.o16 M, MSh.l16 M, MSh.p42 M, MSh.o17 M, MSh.l17 M, MSh.p43 M, MSh.o18 M, MSh.l18 M, MSh.p44 M, MSh.o19 M, MSh.l19 M, MSh.p45 M, MSh.o20 M, MSh.l20 M, MSh.p46 M, MSh.o21 M, MSh.l21 M, MSh.p47 M, MSh.o22 M, MSh.l22 M, MSh.p50 M, MSh.o23 M, MSh.l23 M, MSh.p51 M, MSh.o24 M, MSh.l24 M, MSh.p52 M, MSh.o25 M, MSh.l25 M, fd0, fd1, fd2, fd3, fd4, fd5, fd6, fd7, fd8, fd9, fd10, fd11, fd12, fd13, fd14, fd15, fd16, fd17, fd18, fd19, fd20, fd21, fd22, fd23, fd24, fd25, fd26, fd27, fd28, fd29, fd30, fd31, fd32, fd33, fd34, fd35, fd36, fd37, fd38, fd39, fd40, fd41, fd42, fd43, fd44, fd45, fd46, fd47, fd48, fd49, fd50, fd51, fd52, -Int.reduceToNat, -Int32.reduceToNatClampNeg, il0, il1, il2, il3, il4, il5, il6, il7, il8, il9, il10, il11, il12, il13, il14, il15, il16, il17, il18, il19, il20, il21, il22, il23, il24, il25, il26, il27, il28, il29, il30, il31, il32, il35, il36, il38, il40, il42, il43, il44, il45, il46, il47, il48, il49, il50, il51, il52, il57, il59, il60, il63, il64, il75, il80, il95, il96, il97, il98, il99, il100, il120, il122, il123, il127, il128, il135, il167, il175, il225, il249, il250, il255, il256, il360, il370, il384, il600, il700, il740, il900, il940, il1024, il1600, il4800, il64000, il125000, il262143, il1000000000, iI_toInt, iI_add, iI_sub, iI_mul, iI_neg, iI_lt, iI_le, iI_eq, iI_n, iI_in, iI_div, iI_mod, iI_shm, iI_and1, iI_and7, iI_and63, iI_shr3, iI_shr6, rd_I, ob, Option.some.injEq, exists_eq_left', exists_eq_left, true_and, and_true, fqI, fqJ, eq_self, true_or, or_true, bP_0, bP_0i, npP, bP_1i, bP_b, not_true_eq_false, not_false_eq_true, false_implies, true_implies, implies_true, Classical.not_not, and_self]
  exact k
end GETS
/-- a town as bytes tell it, 0 beyond its row -/
def byC (s b : Int → Int) : Int → Int := fun i => if 0 ≤ i ∧ i < 24 then byT s b i else 0
def byOK (s b : Int → Int) (len : Int) : Prop := len = 3 * s 2 ∧ ByOk s b ∧ townT s (byC s b) (zC s)
section CRB
variable {h h1 h2 : AH} {la tw tp : Nat} {post : AH → Int32 → Prop} {a c d r x y n sp sq w hh u hr how one k len : Int} {t s z b T : Int → Int}
theorem byC_0 (h1 : 0 ≤ r) (h2 : r < s 2) (n2 : s 2 ≤ 8) : byC s b (3 * r) = b (3 * r) ∧ byC s b (3 * r + 1) = b (3 * r + 1) ∧ byC s b (3 * r + 2) = if s (99 + 3 * r) = s (99 + 3 * r + 1) then 0 else b (3 * r + 2) := by
  unfold byC byT
  refine ⟨?_, ?_, ?_⟩
  · rw [if_pos (by omega), if_pos (by omega), if_neg (by omega)]
  · rw [if_pos (by omega), if_pos (by omega), if_neg (by omega)]
  · rw [if_pos (by omega), if_pos (by omega), if_pos (by omega), show 99 + (3 * r + 2 - 2) = 99 + 3 * r by omega, show 99 + (3 * r + 2 - 1) = 99 + 3 * r + 1 by omega]
theorem TS.tr (B : TB h tw) (hp : aP h tw 0 = some la) (hT : TS h tw s T z (s 2)) (hI : ∀ r, 0 ≤ r → r < s 2 → in8 T z r ∧ Z1 z r) : TR h tw la s T z := by
  refine ⟨B, hp, fun r r1 r2 => (hT r r1 r2).1, fun r r1 r2 x y x1 x2 y1 y2 => ?_⟩
  rw [(hT r r1 r2).2.2]
  exact zb_spot (hT r r1 r2).2.1 (hI r r1 r2).1 (hI r r1 r2).2 x1 x2 y1 y2
theorem town_vt (hS : ∀ r, 0 ≤ r → r < s 2 → Spot T z r) (ht : townT s T z) : VT s T z := by
  intro r r1 r2
  have q := ht r r1 r2
  refine ⟨hS r r1 r2, Classical.not_not.mp fun c => q (Or.inl c), fun o o1 o2 o3 o4 => q (Or.inr ⟨o, o1, o2, o3, o4⟩)⟩
theorem c_readBytes (H : LB h la) (L : LR h la s) (B : TB h tw) (hLD : LD tw la) (hG : GS s) (o1 : ob h tp 12) (l1 : aL h tp = 940) (hb : ∀ k, -128 ≤ rd h tp k ∧ rd h tp k ≤ 127) (htp : tp ≠ tw + 1) (hl : 0 ≤ len ∧ len ≤ 940) (eb : b = fun i => rd h tp i % 256)
    (k : ∀ h', Fr [tw + 1] [tw + 2] [tw] h h' → (∀ j, j ≠ 0 → aP h' tw j = aP h tw j) → (byOK s b len → TR h' tw la s (byC s b) (zC s) ∧ VT s (byC s b) (zC s)) → post h' (bP (byOK s b len))) : wp_X8_readBytes h tw la tp (iI len) post := by
  have hG' := hG
  obtain ⟨⟨hS, n0, n1, n2, n3, n4, n5, hK, hW⟩, hD, hPo, hNe⟩ := hG
  have s0 := hS 0 (by omega) (by omega)
  have s1 := hS 1 (by omega) (by omega)
  have s2 := hS 2 (by omega) (by omega)
  unfold LD at hLD
  unfold wp_X8_readBytes
  refine ⟨B.o0, fun h1 e1 => ?_⟩
  have f1 : Fr [] [] [tw] h h1 := e1 ▸ fr_hP
  have pt : ∀ j, aP h1 tw j = if j = 0 then some la else aP h tw j := fun j => by rw [e1, aP_hP]
  have B1 : TB h1 tw := B.fr f1 ⟨by rw [pt, if_neg (by omega)], by rw [pt, if_neg (by omega)]⟩
  have H1 : LB h1 la := H.fr f1 (fun j hj => by simp; omega)
  have L1 : LR h1 la s := L.fr f1 (fun j hj => by simp) (fun j hj => by simp)
  have hp1 : aP h1 tw 0 = some la := by rw [pt, if_pos rfl]
  have q1 : ob h1 tp 12 := ⟨by rw [f1.2.2.1]; exact o1.1, by rw [f1.1]; exact o1.2⟩
  have q2 : aL h1 tp = 940 := by rw [f1.2.2.2.1]; exact l1
  have etp : rd h1 tp = rd h tp := f1.row (by simp)
  have kk : aK h1 tp = 12 := q1.1
  have F1 : Fr [tw + 1] [tw + 2] [tw] h h1 := f1.mono (by simp) (by simp) (by simp)
  have e940 : nI 940 = iI 940 := by decide
  have no : ¬ byOK s b len → post h1 (iI 0) := fun q => by
    have := k h1 F1 (fun j hj => by rw [pt, if_neg hj]) (fun p => absurd p q)
    rw [bP_f q] at this
    exact this
  simp (disch := omega) only [LB.o0 H1, fd0, fd1, fd2, fd3, fd4, fd5, fd6, fd7, fd8, fd9, fd10, fd11, fd12, fd13, fd14, fd15, fd16, fd17, fd18, fd19, fd20, fd21, fd22, fd23, fd24, fd25, fd26, fd27, fd28, fd29, fd30, fd31, fd32, fd33, fd34, fd35, fd36, fd37, fd38, fd39, fd40, fd41, fd42, fd43, fd44, fd45, fd46, fd47, fd48, fd49, fd50, fd51, fd52, LR.c5 L1, q1, q2, kk, e940, -Int.reduceToNat, -Int32.reduceToNatClampNeg, il0, il1, il2, il3, il4, il5, il6, il7, il8, il9, il10, il11, il12, il13, il14, il15, il16, il17, il18, il19, il20, il21, il22, il23, il24, il25, il26, il27, il28, il29, il30, il31, il32, il35, il36, il38, il40, il42, il43, il44, il45, il46, il47, il48, il49, il50, il51, il52, il57, il59, il60, il63, il64, il75, il80, il95, il96, il97, il98, il99, il100, il120, il122, il123, il127, il128, il135, il167, il175, il225, il249, il250, il255, il256, il360, il370, il384, il600, il700, il740, il900, il940, il1024, il1600, il4800, il64000, il125000, il262143, il1000000000, iI_toInt, iI_add, iI_sub, iI_mul, iI_neg, iI_lt, iI_le, iI_eq, iI_n, iI_in, iI_div, iI_mod, iI_shm, iI_and1, iI_and7, iI_and63, iI_shr3, iI_shr6, rd_I, ob, Option.some.injEq, exists_eq_left', exists_eq_left, true_and, and_true, fqI, fqJ, eq_self, true_or, or_true, bP_0, bP_0i, npP, bP_1i, bP_b, not_true_eq_false, not_false_eq_true, false_implies, true_implies, implies_true, Classical.not_not, and_self, cP, cP', ite_n]
  by_cases cl : len = 3 * s 2
  case neg => rw [ite_f cl]; exact no fun q => cl q.1
  rw [ite_t cl, ite_t (by omega)]
  have hZ : ∀ r, 0 ≤ r → r < s 2 → Z1 (zC s) r := fun r r1 r2 => Z1.of (EZ.c s) hD r1 r2 n2
  refine lf_for (W := fun n (g : AH) r => wl_X8_readBytes_26 post n g tw la tp (iI r)) (lo := 0) (hi := s 2) (fun r g => Fr [tw + 1] [tw + 2] [] h1 g ∧ TS g tw s (byC s b) (zC s) r ∧ ∀ o, 0 ≤ o → o < r → b (3 * o + 2) ≤ 1) (by omega) ?_ ?_ h1 ⟨(Fr.refl h1).mono (by simp) (by simp) (by simp), fun r r1 r2 => by omega, fun r r1 r2 => by omega⟩
  · intro m g r r1 r2 hg kk
    obtain ⟨fg, hT, hB⟩ := hg
    have eP : aP g = aP h1 := fg.aPe
    have Bg : TB g tw := B1.fr fg ⟨by rw [eP], by rw [eP]⟩
    have Hg : LB g la := H1.fr fg (fun j hj => by simp)
    have Lg : LR g la s := L1.fr fg (fun j hj => by simp; omega) (fun j hj => by simp; omega)
    have hpg : aP g tw 0 = some la := by rw [eP]; exact hp1
    have qg : ob g tp 12 := ⟨by rw [fg.2.2.1]; exact q1.1, by rw [fg.1]; exact q1.2⟩
    have qg2 : aL g tp = 940 := by rw [fg.2.2.2.1]; exact q2
    have egt : rd g tp = rd h tp := by rw [fg.row (by simpa using htp), etp]
    have Fg : Fr [tw + 1] [tw + 2] [tw] h g := F1.trans (fg.mono (by simp) (by simp) (by simp))
    have nog : ¬ byOK s b len → post g (iI 0) := fun q => by
      have := k g Fg (fun j hj => by rw [eP, pt, if_neg hj]) (fun p => absurd p q)
      rw [bP_f q] at this
      exact this
    have bx := hb (3 * r)
    have bY := hb (3 * r + 1)
    have bu := hb (3 * r + 2)
    have by0 := byC_0 (b := b) r1 r2 n2
    have eb0 : b (3 * r) = rd h tp (3 * r) % 256 := by rw [eb]
    have eb1 : b (3 * r + 1) = rd h tp (3 * r + 1) % 256 := by rw [eb]
    have eb2 : b (3 * r + 2) = rd h tp (3 * r + 2) % 256 := by rw [eb]
    show wb_X8_readBytes_26 (wl_X8_readBytes_26 post m) g tw la tp (iI r) post
    unfold wb_X8_readBytes_26
    simp (disch := omega) only [LB.o0 Hg, fd0, fd1, fd2, fd3, fd4, fd5, fd6, fd7, fd8, fd9, fd10, fd11, fd12, fd13, fd14, fd15, fd16, fd17, fd18, fd19, fd20, fd21, fd22, fd23, fd24, fd25, fd26, fd27, fd28, fd29, fd30, fd31, fd32, fd33, fd34, fd35, fd36, fd37, fd38, fd39, fd40, fd41, fd42, fd43, fd44, fd45, fd46, fd47, fd48, fd49, fd50, fd51, fd52, LR.c5 Lg, qg, qg2, -Int.reduceToNat, -Int32.reduceToNatClampNeg, il0, il1, il2, il3, il4, il5, il6, il7, il8, il9, il10, il11, il12, il13, il14, il15, il16, il17, il18, il19, il20, il21, il22, il23, il24, il25, il26, il27, il28, il29, il30, il31, il32, il35, il36, il38, il40, il42, il43, il44, il45, il46, il47, il48, il49, il50, il51, il52, il57, il59, il60, il63, il64, il75, il80, il95, il96, il97, il98, il99, il100, il120, il122, il123, il127, il128, il135, il167, il175, il225, il249, il250, il255, il256, il360, il370, il384, il600, il700, il740, il900, il940, il1024, il1600, il4800, il64000, il125000, il262143, il1000000000, iI_toInt, iI_add, iI_sub, iI_mul, iI_neg, iI_lt, iI_le, iI_eq, iI_n, iI_in, iI_div, iI_mod, iI_shm, iI_and1, iI_and7, iI_and63, iI_shr3, iI_shr6, rd_I, ob, Option.some.injEq, exists_eq_left', exists_eq_left, true_and, and_true, fqI, fqJ, eq_self, true_or, or_true, bP_0, bP_0i, npP, bP_1i, bP_b, not_true_eq_false, not_false_eq_true, false_implies, true_implies, implies_true, Classical.not_not, and_self, cP, cP', ite_n, ite_f, egt]
    rw [c_hasCell Hg Lg (by omega) (by omega) (by omega) (by omega) s0.1 n0 s1.1 n1]
    simp (disch := omega) only [LB.o0 Hg, fd0, fd1, fd2, fd3, fd4, fd5, fd6, fd7, fd8, fd9, fd10, fd11, fd12, fd13, fd14, fd15, fd16, fd17, fd18, fd19, fd20, fd21, fd22, fd23, fd24, fd25, fd26, fd27, fd28, fd29, fd30, fd31, fd32, fd33, fd34, fd35, fd36, fd37, fd38, fd39, fd40, fd41, fd42, fd43, fd44, fd45, fd46, fd47, fd48, fd49, fd50, fd51, fd52, -Int.reduceToNat, -Int32.reduceToNatClampNeg, il0, il1, il2, il3, il4, il5, il6, il7, il8, il9, il10, il11, il12, il13, il14, il15, il16, il17, il18, il19, il20, il21, il22, il23, il24, il25, il26, il27, il28, il29, il30, il31, il32, il35, il36, il38, il40, il42, il43, il44, il45, il46, il47, il48, il49, il50, il51, il52, il57, il59, il60, il63, il64, il75, il80, il95, il96, il97, il98, il99, il100, il120, il122, il123, il127, il128, il135, il167, il175, il225, il249, il250, il255, il256, il360, il370, il384, il600, il700, il740, il900, il940, il1024, il1600, il4800, il64000, il125000, il262143, il1000000000, iI_toInt, iI_add, iI_sub, iI_mul, iI_neg, iI_lt, iI_le, iI_eq, iI_n, iI_in, iI_div, iI_mod, iI_shm, iI_and1, iI_and7, iI_and63, iI_shr3, iI_shr6, rd_I, ob, Option.some.injEq, exists_eq_left', exists_eq_left, true_and, and_true, fqI, fqJ, eq_self, true_or, or_true, bP_0, bP_0i, npP, bP_1i, bP_b, not_true_eq_false, not_false_eq_true, false_implies, true_implies, implies_true, Classical.not_not, and_self, cP, cP', ite_n]
    by_cases cc : 0 ≤ rd h tp (3 * r) ∧ rd h tp (3 * r) < s 0 ∧ 0 ≤ rd h tp (3 * r + 1) ∧ rd h tp (3 * r + 1) < s 1
    case neg =>
      rw [ite_f cc]
      refine nog fun q => ?_
      have p := q.2.2 r r1 r2
      apply p
      refine Or.inl fun i => cc ?_
      obtain ⟨i1, i2, i3, i4⟩ := i
      have hu : 0 ≤ byC s b (3 * r + 2) ∧ byC s b (3 * r + 2) ≤ 1 := by
        rw [by0.2.2]
        have := q.2.1 r r1 r2
        split <;> omega
      have w := wd_Z (t := byC s b) (z := zC s) (r := r) ⟨by rw [by0.1]; omega, by rw [by0.2.1]; omega, hu⟩ (hZ r r1 r2)
      rw [by0.1] at i1 i3
      rw [by0.2.1] at i2 i4
      omega
    rw [ite_t cc]
    by_cases cu : rd h tp (3 * r + 2) < 0
    · rw [ite_t cu]
      refine nog fun q => ?_
      have := q.2.1 r r1 r2
      omega
    rw [ite_f cu]
    by_cases cv : rd h tp (3 * r + 2) ≤ 1
    case neg =>
      rw [ite_f cv]
      refine nog fun q => ?_
      have := q.2.1 r r1 r2
      omega
    rw [ite_t cv, c_spotOf Hg Lg hS r1 r2 n2 (by omega) (by omega) (by omega) cv]
    have hSp : Spot (byC s b) (zC s) r := by
      unfold Spot
      obtain ⟨z0, z1, -⟩ := (EZ.c s).at r1 (show r < 8 by omega)
      rw [by0.1, by0.2.1, by0.2.2, z0, z1]
      refine ⟨by omega, by omega, by split <;> omega, fun q => by rw [if_pos q]⟩
    have en := enc_nums hSp
    have ee : (if s (99 + 3 * r) = s (99 + 3 * r + 1) then 8 * rd h tp (3 * r + 1) + rd h tp (3 * r) else 8 * rd h tp (3 * r + 1) + rd h tp (3 * r) + 64 * rd h tp (3 * r + 2)) = enc (byC s b) r := by
      unfold enc
      rw [by0.1, by0.2.1, by0.2.2]
      split <;> omega
    rw [ee]
    refine ⟨Bg.o0, c_put Hg Lg Bg hpg hLD hD n2 r1 r2 en.1.1 en.1.2 fun h' f' es ej => ?_⟩
    have we := wsp_enc (EZ.c s) r1 (show r < 8 by omega) hSp
    rw [we.1, we.2] at ej
    refine kk h' ⟨fg.trans f', fun o o1 o2 => ?_, fun o o1 o2 => ?_⟩
    · by_cases c : o = r
      · subst c
        exact ⟨by rw [es, updT_s], hSp, by rw [ej, if_pos rfl]⟩
      · obtain ⟨t1, t2, t3⟩ := hT o o1 (by omega)
        exact ⟨by rw [es, updT_n c, t1], t2, by rw [ej, if_neg (by omega), t3]⟩
    · by_cases c : o = r
      · subst c; omega
      · exact hB o o1 (by omega)
  · intro m g hg
    obtain ⟨fg, hT, hB⟩ := hg
    have eP : aP g = aP h1 := fg.aPe
    have Bg : TB g tw := B1.fr fg ⟨by rw [eP], by rw [eP]⟩
    have Hg : LB g la := H1.fr fg (fun j hj => by simp)
    have Lg : LR g la s := L1.fr fg (fun j hj => by simp; omega) (fun j hj => by simp; omega)
    have hpg : aP g tw 0 = some la := by rw [eP]; exact hp1
    have Fg : Fr [tw + 1] [tw + 2] [tw] h g := F1.trans (fg.mono (by simp) (by simp) (by simp))
    show wb_X8_readBytes_26 (wl_X8_readBytes_26 post m) g tw la tp (iI (s 2)) post
    unfold wb_X8_readBytes_26
    simp (disch := omega) only [LB.o0 Hg, fd0, fd1, fd2, fd3, fd4, fd5, fd6, fd7, fd8, fd9, fd10, fd11, fd12, fd13, fd14, fd15, fd16, fd17, fd18, fd19, fd20, fd21, fd22, fd23, fd24, fd25, fd26, fd27, fd28, fd29, fd30, fd31, fd32, fd33, fd34, fd35, fd36, fd37, fd38, fd39, fd40, fd41, fd42, fd43, fd44, fd45, fd46, fd47, fd48, fd49, fd50, fd51, fd52, LR.c5 Lg, -Int.reduceToNat, -Int32.reduceToNatClampNeg, il0, il1, il2, il3, il4, il5, il6, il7, il8, il9, il10, il11, il12, il13, il14, il15, il16, il17, il18, il19, il20, il21, il22, il23, il24, il25, il26, il27, il28, il29, il30, il31, il32, il35, il36, il38, il40, il42, il43, il44, il45, il46, il47, il48, il49, il50, il51, il52, il57, il59, il60, il63, il64, il75, il80, il95, il96, il97, il98, il99, il100, il120, il122, il123, il127, il128, il135, il167, il175, il225, il249, il250, il255, il256, il360, il370, il384, il600, il700, il740, il900, il940, il1024, il1600, il4800, il64000, il125000, il262143, il1000000000, iI_toInt, iI_add, iI_sub, iI_mul, iI_neg, iI_lt, iI_le, iI_eq, iI_n, iI_in, iI_div, iI_mod, iI_shm, iI_and1, iI_and7, iI_and63, iI_shr3, iI_shr6, rd_I, ob, Option.some.injEq, exists_eq_left', exists_eq_left, true_and, and_true, fqI, fqJ, eq_self, true_or, or_true, bP_0, bP_0i, npP, bP_1i, bP_b, not_true_eq_false, not_false_eq_true, false_implies, true_implies, implies_true, Classical.not_not, and_self, cP, cP', ite_n, ite_T, ite_F, ite_t, ite_f, TB.o0 Bg, c_isSound Hg Lg Bg hpg hG' (EZ.c s) hT]
    have et : townT s (byC s b) (zC s) ↔ byOK s b len := ⟨fun q => ⟨cl, hB, q⟩, fun q => q.2.2⟩
    rw [bP_c et]
    refine k g Fg (fun j hj => by rw [eP, pt, if_neg hj]) (fun q => ?_)
    have V := town_vt (fun r r1 r2 => (hT r r1 r2).2.1) q.2.2
    exact ⟨TS.tr Bg hpg hT fun r r1 r2 => ⟨in8_of n0 n1 (V r r1 r2).2.1, hZ r r1 r2⟩, V⟩
end CRB
