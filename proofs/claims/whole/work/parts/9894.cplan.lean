/-! a PLAN's text in the class -/
def PA (h : AH) (A : Int → Int) (c : Int) : Prop := (CSh h) ∧ (rd h 26 12 = c) ∧ (∀ k, 0 ≤ k → k < c → rd h 29 k = A (2 * k) ∧ rd h 30 k = A (2 * k + 1))
theorem PA.S {h : AH} {A : Int → Int} {c : Int} (R : PA h A c) : CSh h := R.1
theorem PA.c12 {h : AH} {A : Int → Int} {c : Int} (R : PA h A c) : rd h 26 12 = c := R.2.1
theorem PA.ac {h : AH} {A : Int → Int} {c : Int} (R : PA h A c) : ∀ k, 0 ≤ k → k < c → rd h 29 k = A (2 * k) ∧ rd h 30 k = A (2 * k + 1) := R.2.2
def PO (T : Int → Int) (n m : Int) (h h' : AH) (r : RT) : Prop := Fr [26, 29, 30] [] [] h h' ∧ ((r.1 ≠ 0 ∧ ∃ p a, RD T n m h' 26 3 27 r.1 r.2.1 p a) ∨ (r.1 = 0 ∧ ∃ fa a, RD T n m h' 26 3 27 0 fa r.2.2.2.2.2 a ∧ PA h' r.2.2.1 r.2.2.2.2.1))
section CPL
variable {h h1 h2 h' h0 g : AH} {la tx ci tb : Nat} {postV : AH → Prop} {post : AH → Int32 → Prop} {a b c d r x y n m p f fa q e k i lo hi v w rc how who : Int} {T s A : Int → Int} {l : List Int} {N : Int → List Int}
theorem PO.from (t : Fr [26, 29, 30] [] [] h h1) {r : RT} (c : PO T n m h1 h' r) : PO T n m h h' r := ⟨t.trans c.1, c.2⟩
theorem tfF.f26 (t : tfF h h' 26) : Fr [26, 29, 30] [] [] h h' := t.1.mono (by simp) (by simp) (by simp)
theorem RD.a29 {j : Nat} (R : RD T n m h 26 3 27 f fa p a) (hj : j = 29 ∨ j = 30) (F : Fr [j] [] [] h h') : RD T n m h' 26 3 27 f fa p a := by
  obtain ⟨b1, b2, b3, b4⟩ := R.B
  have e2 : rd h' 26 = rd h 26 := F.row (by simp <;> omega)
  exact ⟨F.gr.ob R.o, by rw [F.aPe]; exact R.pp, R.X.fr F (by simp <;> omega), ⟨by rw [F.aPe]; exact b1, F.gr.ob b2, by rw [F.2.2.2.1]; exact b3, fun i i0 i1 => by rw [F.row (by simp <;> omega)]; exact b4 i i0 i1⟩, by rw [e2]; exact R.s2, by rw [e2]; exact R.s3, by rw [e2]; exact R.sf, by rw [e2]; exact R.sa, by rw [e2]; exact R.sp, by rw [e2]; exact R.ss, R.hp, R.ha, R.hn, R.hm, R.ht⟩
theorem RD.a12 (R : RD T n m h 26 3 27 f fa p a) (F : Fr [26] [] [] h h') (e : rd h' 26 = updT (rd h 26) 12 v) : RD T n m h' 26 3 27 f fa p a := by
  obtain ⟨b1, b2, b3, b4⟩ := R.B
  have e2 : ∀ j, j ≠ 12 → rd h' 26 j = rd h 26 j := fun j hj => by rw [e, updT_n hj]
  exact ⟨F.gr.ob R.o, by rw [F.aPe]; exact R.pp, R.X.fr F (by simp), ⟨by rw [F.aPe]; exact b1, F.gr.ob b2, by rw [F.2.2.2.1]; exact b3, fun i i0 i1 => by rw [F.row (by simp)]; exact b4 i i0 i1⟩, by rw [e2 2 (by omega)]; exact R.s2, by rw [e2 3 (by omega)]; exact R.s3, by rw [e2 10 (by omega)]; exact R.sf, by rw [e2 11 (by omega)]; exact R.sa, by rw [e2 4 (by omega)]; exact R.sp, by rw [e2 5 (by omega)]; exact R.ss, R.hp, R.ha, R.hn, R.hm, R.ht⟩
theorem PA.tf (P : PA h A c) (t : tfF h h' 26) : PA h' A c := by
  obtain ⟨S, c12, ac⟩ := P
  exact ⟨S.gr t.1.gr, by rw [t.2 12 (by decide)]; exact c12, fun k k0 k1 => by rw [t.1.row (by simp), t.1.row (by simp)]; exact ac k k0 k1⟩
/-- what is done comes down, and one more -/
theorem c_act116 (R : RD T n m h 26 3 27 f fa p a) (P : PA h A c) (hc : 0 ≤ c ∧ c < 60) (hw : rd h 30 c = who) (hh : -2147483648 ≤ how ∧ how < 2147483648) (K : ∀ h', PO T n m h h' (iteP (f = 0) (okR (upA A c how who) N (c + 1) p) (bdR f fa)) → postV h') : wb_X3_readAct_116 h 26 (iI how) (iI c) 29 postV := by
  obtain ⟨S, c12, ac⟩ := P
  unfold wb_X3_readAct_116
  simp (disch := omega) only [CSh.o0 S, CSh.o1 S, CSh.o2 S, CSh.o3 S, CSh.o26 S, CSh.o27 S, CSh.o29 S, CSh.o30 S, CSh.o31 S, CSh.o56 S, CSh.o57 S, CSh.o58 S, CSh.o62 S, CSh.o66 S, CSh.o70 S, CSh.o74 S, CSh.o75 S, CSh.o77 S, CSh.o79 S, CSh.o80 S, CSh.o81 S, CSh.o82 S, CSh.o83 S, CSh.o84 S, CSh.o85 S, CSh.o86 S, CSh.o87 S, CSh.o88 S, CSh.o53 S, CSh.o54 S, CSh.o55 S, CSh.o59 S, CSh.o60 S, CSh.o61 S, CSh.o63 S, CSh.o64 S, CSh.o65 S, CSh.o67 S, CSh.o68 S, CSh.o69 S, CSh.o71 S, CSh.o72 S, CSh.o73 S, CSh.o89 S, CSh.o90 S, CSh.o91 S, CSh.l1 S, CSh.l3 S, CSh.l27 S, CSh.l29 S, CSh.l30 S, CSh.l56 S, CSh.l57 S, CSh.l58 S, CSh.l75 S, CSh.l77 S, CSh.l79 S, CSh.l81 S, CSh.l82 S, CSh.l83 S, CSh.l84 S, CSh.l85 S, CSh.l86 S, CSh.l87 S, CSh.l88 S, CSh.l54 S, CSh.l55 S, CSh.l60 S, CSh.l61 S, CSh.l64 S, CSh.l65 S, CSh.l68 S, CSh.l69 S, CSh.l72 S, CSh.l73 S, CSh.l90 S, CSh.l91 S, CSh.p0_0 S, CSh.p0_3 S, CSh.p0_4 S, CSh.p0_5 S, CSh.p0_6 S, CSh.p0_7 S, CSh.p0_8 S, CSh.p0_9 S, CSh.p0_10 S, CSh.p0_14 S, CSh.p2_0 S, CSh.p26_0 S, CSh.p26_13 S, CSh.p26_14 S, CSh.p31_1 S, CSh.p31_3 S, CSh.p31_4 S, CSh.p62_0 S, CSh.p66_0 S, CSh.p70_0 S, CSh.p74_0 S, CSh.p74_1 S, CSh.p74_6 S, CSh.p74_7 S, CSh.p74_10 S, CSh.p80_1 S, CSh.p80_2 S, CSh.p80_3 S, CSh.p80_4 S, CSh.p80_5 S, CSh.p80_6 S, CSh.p80_7 S, CSh.p80_8 S, CSh.p53_1 S, CSh.p53_2 S, CSh.p59_1 S, CSh.p59_2 S, CSh.p63_1 S, CSh.p63_2 S, CSh.p67_1 S, CSh.p67_2 S, CSh.p71_1 S, CSh.p71_2 S, CSh.p89_1 S, CSh.p89_2 S, fd0, fd1, fd2, fd3, fd4, fd5, fd6, fd7, fd8, fd9, fd10, fd11, fd12, fd13, fd14, fd15, fd16, fd17, fd18, fd19, fd20, fd21, fd22, fd23, fd24, fd25, fd26, fd27, fd28, fd29, fd30, fd31, fd32, fd33, fd34, fd35, fd36, fd37, fd38, fd39, fd40, fd41, fd42, fd43, fd44, fd45, fd46, fd47, fd48, fd49, fd50, fd51, fd52, -Int.reduceToNat, -Int32.reduceToNatClampNeg, il0, il1, il2, il3, il4, il5, il6, il7, il8, il9, il10, il11, il12, il13, il14, il15, il16, il17, il18, il19, il20, il21, il22, il23, il24, il25, il26, il27, il28, il29, il30, il31, il32, il35, il36, il38, il40, il42, il43, il44, il45, il46, il47, il48, il49, il50, il51, il52, il57, il59, il60, il63, il64, il75, il80, il95, il96, il97, il98, il99, il100, il120, il122, il123, il127, il128, il135, il167, il175, il225, il249, il250, il255, il256, il360, il370, il384, il600, il700, il740, il900, il940, il1024, il1600, il4800, il64000, il125000, il262143, il1000000000, iI_toInt, iI_add, iI_sub, iI_mul, iI_neg, iI_lt, iI_le, iI_eq, iI_n, iI_in, iI_div, iI_mod, iI_shm, iI_and1, iI_and7, iI_and63, iI_shr3, iI_shr6, rd_I, ob, Option.some.injEq, exists_eq_left', exists_eq_left, true_and, and_true, fqI, fqJ, eq_self, true_or, or_true, bP_0, bP_0i, npP, bP_1i, bP_b, not_true_eq_false, not_false_eq_true, false_implies, true_implies, implies_true, Classical.not_not, and_self]
  intro g1 w1
  obtain ⟨f1, r1⟩ := wI (i := c) (by omega) hh.1 hh.2 w1
  have S1 := S.gr f1.gr
  have q12 : rd g1 26 12 = c := by rw [f1.row (by simp)]; exact c12
  simp (disch := omega) only [CSh.o0 S1, CSh.o1 S1, CSh.o2 S1, CSh.o3 S1, CSh.o26 S1, CSh.o27 S1, CSh.o29 S1, CSh.o30 S1, CSh.o31 S1, CSh.o56 S1, CSh.o57 S1, CSh.o58 S1, CSh.o62 S1, CSh.o66 S1, CSh.o70 S1, CSh.o74 S1, CSh.o75 S1, CSh.o77 S1, CSh.o79 S1, CSh.o80 S1, CSh.o81 S1, CSh.o82 S1, CSh.o83 S1, CSh.o84 S1, CSh.o85 S1, CSh.o86 S1, CSh.o87 S1, CSh.o88 S1, CSh.o53 S1, CSh.o54 S1, CSh.o55 S1, CSh.o59 S1, CSh.o60 S1, CSh.o61 S1, CSh.o63 S1, CSh.o64 S1, CSh.o65 S1, CSh.o67 S1, CSh.o68 S1, CSh.o69 S1, CSh.o71 S1, CSh.o72 S1, CSh.o73 S1, CSh.o89 S1, CSh.o90 S1, CSh.o91 S1, CSh.l1 S1, CSh.l3 S1, CSh.l27 S1, CSh.l29 S1, CSh.l30 S1, CSh.l56 S1, CSh.l57 S1, CSh.l58 S1, CSh.l75 S1, CSh.l77 S1, CSh.l79 S1, CSh.l81 S1, CSh.l82 S1, CSh.l83 S1, CSh.l84 S1, CSh.l85 S1, CSh.l86 S1, CSh.l87 S1, CSh.l88 S1, CSh.l54 S1, CSh.l55 S1, CSh.l60 S1, CSh.l61 S1, CSh.l64 S1, CSh.l65 S1, CSh.l68 S1, CSh.l69 S1, CSh.l72 S1, CSh.l73 S1, CSh.l90 S1, CSh.l91 S1, CSh.p0_0 S1, CSh.p0_3 S1, CSh.p0_4 S1, CSh.p0_5 S1, CSh.p0_6 S1, CSh.p0_7 S1, CSh.p0_8 S1, CSh.p0_9 S1, CSh.p0_10 S1, CSh.p0_14 S1, CSh.p2_0 S1, CSh.p26_0 S1, CSh.p26_13 S1, CSh.p26_14 S1, CSh.p31_1 S1, CSh.p31_3 S1, CSh.p31_4 S1, CSh.p62_0 S1, CSh.p66_0 S1, CSh.p70_0 S1, CSh.p74_0 S1, CSh.p74_1 S1, CSh.p74_6 S1, CSh.p74_7 S1, CSh.p74_10 S1, CSh.p80_1 S1, CSh.p80_2 S1, CSh.p80_3 S1, CSh.p80_4 S1, CSh.p80_5 S1, CSh.p80_6 S1, CSh.p80_7 S1, CSh.p80_8 S1, CSh.p53_1 S1, CSh.p53_2 S1, CSh.p59_1 S1, CSh.p59_2 S1, CSh.p63_1 S1, CSh.p63_2 S1, CSh.p67_1 S1, CSh.p67_2 S1, CSh.p71_1 S1, CSh.p71_2 S1, CSh.p89_1 S1, CSh.p89_2 S1, fd0, fd1, fd2, fd3, fd4, fd5, fd6, fd7, fd8, fd9, fd10, fd11, fd12, fd13, fd14, fd15, fd16, fd17, fd18, fd19, fd20, fd21, fd22, fd23, fd24, fd25, fd26, fd27, fd28, fd29, fd30, fd31, fd32, fd33, fd34, fd35, fd36, fd37, fd38, fd39, fd40, fd41, fd42, fd43, fd44, fd45, fd46, fd47, fd48, fd49, fd50, fd51, fd52, q12, -Int.reduceToNat, -Int32.reduceToNatClampNeg, il0, il1, il2, il3, il4, il5, il6, il7, il8, il9, il10, il11, il12, il13, il14, il15, il16, il17, il18, il19, il20, il21, il22, il23, il24, il25, il26, il27, il28, il29, il30, il31, il32, il35, il36, il38, il40, il42, il43, il44, il45, il46, il47, il48, il49, il50, il51, il52, il57, il59, il60, il63, il64, il75, il80, il95, il96, il97, il98, il99, il100, il120, il122, il123, il127, il128, il135, il167, il175, il225, il249, il250, il255, il256, il360, il370, il384, il600, il700, il740, il900, il940, il1024, il1600, il4800, il64000, il125000, il262143, il1000000000, iI_toInt, iI_add, iI_sub, iI_mul, iI_neg, iI_lt, iI_le, iI_eq, iI_n, iI_in, iI_div, iI_mod, iI_shm, iI_and1, iI_and7, iI_and63, iI_shr3, iI_shr6, rd_I, ob, Option.some.injEq, exists_eq_left', exists_eq_left, true_and, and_true, fqI, fqJ, eq_self, true_or, or_true, bP_0, bP_0i, npP, bP_1i, bP_b, not_true_eq_false, not_false_eq_true, false_implies, true_implies, implies_true, Classical.not_not, and_self]
  intro g2 w2
  obtain ⟨f2, r2⟩ := wI (i := 12) (by omega) (by omega) (by omega) w2
  have R2 := (R.a29 (Or.inl rfl) f1).a12 f2 r2
  refine K g2 ⟨(f1.mono (by simp) (by simp) (by simp)).trans (f2.mono (by simp) (by simp) (by simp)), ?_⟩
  by_cases cf : f = 0
  · rw [ite_t cf]
    subst cf
    refine Or.inr ⟨rfl, fa, a, R2, S1.gr f2.gr, by rw [r2, updT_s]; rfl, fun k k0 k1 => ?_⟩
    have k1 : k < c + 1 := k1
    show rd g2 29 k = upA A c how who (2 * k) ∧ rd g2 30 k = upA A c how who (2 * k + 1)
    rw [f2.row (by simp), f2.row (by simp), r1, f1.row (by simp)]
    by_cases ck : k = c
    · rw [ck, updT_s, upA_h, upA_w]; exact ⟨rfl, hw⟩
    · rw [updT_n ck, upA_n (by omega), upA_n (by omega)]; exact ac k k0 (by omega)
  · rw [ite_f cf]
    exact Or.inl ⟨cf, p, a, R2⟩
theorem c_act73 (R : RD T n m h 26 3 27 f fa p a) (P : PA h A c) (hc : 0 ≤ c ∧ c < 60) (hw : -2147483648 ≤ w ∧ w < 2147483648) (hv : -2147483648 ≤ who ∧ who < 2147483648) (K : ∀ h', PO T n m h h' (iteP (f = 0) (iteP (w = 15) (siS T n m p fun sd q' => okR (upA A c sd who) N (c + 1) q') (iteP (w = 16) (okR (upA A c 4 who) N (c + 1) p) (okR (upA A c 5 who) N (c + 1) p))) (bdR f fa)) → postV h') : wb_X3_readAct_73 h 26 (iI w) (iI who) postV := by
  have S := P.S
  have c12 := P.c12
  unfold wb_X3_readAct_73
  simp (disch := omega) only [CSh.o0 S, CSh.o1 S, CSh.o2 S, CSh.o3 S, CSh.o26 S, CSh.o27 S, CSh.o29 S, CSh.o30 S, CSh.o31 S, CSh.o56 S, CSh.o57 S, CSh.o58 S, CSh.o62 S, CSh.o66 S, CSh.o70 S, CSh.o74 S, CSh.o75 S, CSh.o77 S, CSh.o79 S, CSh.o80 S, CSh.o81 S, CSh.o82 S, CSh.o83 S, CSh.o84 S, CSh.o85 S, CSh.o86 S, CSh.o87 S, CSh.o88 S, CSh.o53 S, CSh.o54 S, CSh.o55 S, CSh.o59 S, CSh.o60 S, CSh.o61 S, CSh.o63 S, CSh.o64 S, CSh.o65 S, CSh.o67 S, CSh.o68 S, CSh.o69 S, CSh.o71 S, CSh.o72 S, CSh.o73 S, CSh.o89 S, CSh.o90 S, CSh.o91 S, CSh.l1 S, CSh.l3 S, CSh.l27 S, CSh.l29 S, CSh.l30 S, CSh.l56 S, CSh.l57 S, CSh.l58 S, CSh.l75 S, CSh.l77 S, CSh.l79 S, CSh.l81 S, CSh.l82 S, CSh.l83 S, CSh.l84 S, CSh.l85 S, CSh.l86 S, CSh.l87 S, CSh.l88 S, CSh.l54 S, CSh.l55 S, CSh.l60 S, CSh.l61 S, CSh.l64 S, CSh.l65 S, CSh.l68 S, CSh.l69 S, CSh.l72 S, CSh.l73 S, CSh.l90 S, CSh.l91 S, CSh.p0_0 S, CSh.p0_3 S, CSh.p0_4 S, CSh.p0_5 S, CSh.p0_6 S, CSh.p0_7 S, CSh.p0_8 S, CSh.p0_9 S, CSh.p0_10 S, CSh.p0_14 S, CSh.p2_0 S, CSh.p26_0 S, CSh.p26_13 S, CSh.p26_14 S, CSh.p31_1 S, CSh.p31_3 S, CSh.p31_4 S, CSh.p62_0 S, CSh.p66_0 S, CSh.p70_0 S, CSh.p74_0 S, CSh.p74_1 S, CSh.p74_6 S, CSh.p74_7 S, CSh.p74_10 S, CSh.p80_1 S, CSh.p80_2 S, CSh.p80_3 S, CSh.p80_4 S, CSh.p80_5 S, CSh.p80_6 S, CSh.p80_7 S, CSh.p80_8 S, CSh.p53_1 S, CSh.p53_2 S, CSh.p59_1 S, CSh.p59_2 S, CSh.p63_1 S, CSh.p63_2 S, CSh.p67_1 S, CSh.p67_2 S, CSh.p71_1 S, CSh.p71_2 S, CSh.p89_1 S, CSh.p89_2 S, fd0, fd1, fd2, fd3, fd4, fd5, fd6, fd7, fd8, fd9, fd10, fd11, fd12, fd13, fd14, fd15, fd16, fd17, fd18, fd19, fd20, fd21, fd22, fd23, fd24, fd25, fd26, fd27, fd28, fd29, fd30, fd31, fd32, fd33, fd34, fd35, fd36, fd37, fd38, fd39, fd40, fd41, fd42, fd43, fd44, fd45, fd46, fd47, fd48, fd49, fd50, fd51, fd52, c12, -Int.reduceToNat, -Int32.reduceToNatClampNeg, il0, il1, il2, il3, il4, il5, il6, il7, il8, il9, il10, il11, il12, il13, il14, il15, il16, il17, il18, il19, il20, il21, il22, il23, il24, il25, il26, il27, il28, il29, il30, il31, il32, il35, il36, il38, il40, il42, il43, il44, il45, il46, il47, il48, il49, il50, il51, il52, il57, il59, il60, il63, il64, il75, il80, il95, il96, il97, il98, il99, il100, il120, il122, il123, il127, il128, il135, il167, il175, il225, il249, il250, il255, il256, il360, il370, il384, il600, il700, il740, il900, il940, il1024, il1600, il4800, il64000, il125000, il262143, il1000000000, iI_toInt, iI_add, iI_sub, iI_mul, iI_neg, iI_lt, iI_le, iI_eq, iI_n, iI_in, iI_div, iI_mod, iI_shm, iI_and1, iI_and7, iI_and63, iI_shr3, iI_shr6, rd_I, ob, Option.some.injEq, exists_eq_left', exists_eq_left, true_and, and_true, fqI, fqJ, eq_self, true_or, or_true, bP_0, bP_0i, npP, bP_1i, bP_b, not_true_eq_false, not_false_eq_true, false_implies, true_implies, implies_true, Classical.not_not, and_self]
  intro g1 w1
  obtain ⟨f1, r1⟩ := wI (i := c) (by omega) hv.1 hv.2 w1
  have S1 := S.gr f1.gr
  have R1 := R.a29 (Or.inr rfl) f1
  have q12 : rd g1 26 12 = c := by rw [f1.row (by simp)]; exact c12
  have P1 : PA g1 A c := ⟨S1, q12, fun k k0 k1 => by rw [f1.row (by simp), r1, updT_n (by omega)]; exact P.ac k k0 k1⟩
  have e30 : rd g1 30 c = who := by rw [r1, updT_s]
  have F1 : Fr [26, 29, 30] [] [] h g1 := f1.mono (by simp) (by simp) (by simp)
  simp (disch := omega) only [CSh.o0 S1, CSh.o1 S1, CSh.o2 S1, CSh.o3 S1, CSh.o26 S1, CSh.o27 S1, CSh.o29 S1, CSh.o30 S1, CSh.o31 S1, CSh.o56 S1, CSh.o57 S1, CSh.o58 S1, CSh.o62 S1, CSh.o66 S1, CSh.o70 S1, CSh.o74 S1, CSh.o75 S1, CSh.o77 S1, CSh.o79 S1, CSh.o80 S1, CSh.o81 S1, CSh.o82 S1, CSh.o83 S1, CSh.o84 S1, CSh.o85 S1, CSh.o86 S1, CSh.o87 S1, CSh.o88 S1, CSh.o53 S1, CSh.o54 S1, CSh.o55 S1, CSh.o59 S1, CSh.o60 S1, CSh.o61 S1, CSh.o63 S1, CSh.o64 S1, CSh.o65 S1, CSh.o67 S1, CSh.o68 S1, CSh.o69 S1, CSh.o71 S1, CSh.o72 S1, CSh.o73 S1, CSh.o89 S1, CSh.o90 S1, CSh.o91 S1, CSh.l1 S1, CSh.l3 S1, CSh.l27 S1, CSh.l29 S1, CSh.l30 S1, CSh.l56 S1, CSh.l57 S1, CSh.l58 S1, CSh.l75 S1, CSh.l77 S1, CSh.l79 S1, CSh.l81 S1, CSh.l82 S1, CSh.l83 S1, CSh.l84 S1, CSh.l85 S1, CSh.l86 S1, CSh.l87 S1, CSh.l88 S1, CSh.l54 S1, CSh.l55 S1, CSh.l60 S1, CSh.l61 S1, CSh.l64 S1, CSh.l65 S1, CSh.l68 S1, CSh.l69 S1, CSh.l72 S1, CSh.l73 S1, CSh.l90 S1, CSh.l91 S1, CSh.p0_0 S1, CSh.p0_3 S1, CSh.p0_4 S1, CSh.p0_5 S1, CSh.p0_6 S1, CSh.p0_7 S1, CSh.p0_8 S1, CSh.p0_9 S1, CSh.p0_10 S1, CSh.p0_14 S1, CSh.p2_0 S1, CSh.p26_0 S1, CSh.p26_13 S1, CSh.p26_14 S1, CSh.p31_1 S1, CSh.p31_3 S1, CSh.p31_4 S1, CSh.p62_0 S1, CSh.p66_0 S1, CSh.p70_0 S1, CSh.p74_0 S1, CSh.p74_1 S1, CSh.p74_6 S1, CSh.p74_7 S1, CSh.p74_10 S1, CSh.p80_1 S1, CSh.p80_2 S1, CSh.p80_3 S1, CSh.p80_4 S1, CSh.p80_5 S1, CSh.p80_6 S1, CSh.p80_7 S1, CSh.p80_8 S1, CSh.p53_1 S1, CSh.p53_2 S1, CSh.p59_1 S1, CSh.p59_2 S1, CSh.p63_1 S1, CSh.p63_2 S1, CSh.p67_1 S1, CSh.p67_2 S1, CSh.p71_1 S1, CSh.p71_2 S1, CSh.p89_1 S1, CSh.p89_2 S1, fd0, fd1, fd2, fd3, fd4, fd5, fd6, fd7, fd8, fd9, fd10, fd11, fd12, fd13, fd14, fd15, fd16, fd17, fd18, fd19, fd20, fd21, fd22, fd23, fd24, fd25, fd26, fd27, fd28, fd29, fd30, fd31, fd32, fd33, fd34, fd35, fd36, fd37, fd38, fd39, fd40, fd41, fd42, fd43, fd44, fd45, fd46, fd47, fd48, fd49, fd50, fd51, fd52, q12, -Int.reduceToNat, -Int32.reduceToNatClampNeg, il0, il1, il2, il3, il4, il5, il6, il7, il8, il9, il10, il11, il12, il13, il14, il15, il16, il17, il18, il19, il20, il21, il22, il23, il24, il25, il26, il27, il28, il29, il30, il31, il32, il35, il36, il38, il40, il42, il43, il44, il45, il46, il47, il48, il49, il50, il51, il52, il57, il59, il60, il63, il64, il75, il80, il95, il96, il97, il98, il99, il100, il120, il122, il123, il127, il128, il135, il167, il175, il225, il249, il250, il255, il256, il360, il370, il384, il600, il700, il740, il900, il940, il1024, il1600, il4800, il64000, il125000, il262143, il1000000000, iI_toInt, iI_add, iI_sub, iI_mul, iI_neg, iI_lt, iI_le, iI_eq, iI_n, iI_in, iI_div, iI_mod, iI_shm, iI_and1, iI_and7, iI_and63, iI_shr3, iI_shr6, rd_I, ob, Option.some.injEq, exists_eq_left', exists_eq_left, true_and, and_true, fqI, fqJ, eq_self, true_or, or_true, bP_0, bP_0i, npP, bP_1i, bP_b, not_true_eq_false, not_false_eq_true, false_implies, true_implies, implies_true, Classical.not_not, and_self]
  refine ⟨fun n15 => ⟨fun n16 => ?_, fun e16 => ?_⟩, fun e15 => ?_⟩
  · rw [ite_f n15, ite_f n16] at K
    exact c_act116 R1 P1 hc e30 (by omega) fun h' po => K h' (po.from F1)
  · rw [ite_f n15, ite_t e16] at K
    exact c_act116 R1 P1 hc e30 (by omega) fun h' po => K h' (po.from F1)
  · rw [ite_t e15] at K
    refine c_readSide R1 fun g2 f' fa' p' a' v t R2 SR => ?_
    have e := SR.st (ok := fun sd q' => okR (upA A c sd who) N (c + 1) q')
    have vb : 0 ≤ v ∧ v ≤ 3 := by rcases SR with u | u | u <;> omega
    rw [e] at K
    exact c_act116 R2 (P1.tf t) hc (by rw [t.1.row (by simp)]; exact e30) (by omega) fun h' po => K h' (po.from (F1.trans t.f26))
theorem c_act32 (R : RD T n m h 26 3 27 f fa p a) (P : PA h A c) (hc : 0 ≤ c ∧ c ≤ 60) (H : LB h la) (hl : la = 5 ∨ la = 32) (h5 : rd h la 5 = rc) (rb : 0 ≤ rc ∧ rc ≤ 8) (NM : NmL h la rc N) (hw : rd h 26 9 = w) (wb : -2147483648 ≤ w ∧ w < 2147483648) (wz : f = 0 → w = 15 ∨ w = 16 ∨ w = 17) (K : ∀ h', PO T n m h h' (iteP (f = 0) (acS T n m N rc w A c a p) (bdR f fa)) → postV h') : wb_X3_readAct_32 h 26 la postV := by
  have S := P.S
  have c12 := P.c12
  unfold wb_X3_readAct_32
  simp (disch := omega) only [CSh.o0 S, CSh.o1 S, CSh.o2 S, CSh.o3 S, CSh.o26 S, CSh.o27 S, CSh.o29 S, CSh.o30 S, CSh.o31 S, CSh.o56 S, CSh.o57 S, CSh.o58 S, CSh.o62 S, CSh.o66 S, CSh.o70 S, CSh.o74 S, CSh.o75 S, CSh.o77 S, CSh.o79 S, CSh.o80 S, CSh.o81 S, CSh.o82 S, CSh.o83 S, CSh.o84 S, CSh.o85 S, CSh.o86 S, CSh.o87 S, CSh.o88 S, CSh.o53 S, CSh.o54 S, CSh.o55 S, CSh.o59 S, CSh.o60 S, CSh.o61 S, CSh.o63 S, CSh.o64 S, CSh.o65 S, CSh.o67 S, CSh.o68 S, CSh.o69 S, CSh.o71 S, CSh.o72 S, CSh.o73 S, CSh.o89 S, CSh.o90 S, CSh.o91 S, CSh.l1 S, CSh.l3 S, CSh.l27 S, CSh.l29 S, CSh.l30 S, CSh.l56 S, CSh.l57 S, CSh.l58 S, CSh.l75 S, CSh.l77 S, CSh.l79 S, CSh.l81 S, CSh.l82 S, CSh.l83 S, CSh.l84 S, CSh.l85 S, CSh.l86 S, CSh.l87 S, CSh.l88 S, CSh.l54 S, CSh.l55 S, CSh.l60 S, CSh.l61 S, CSh.l64 S, CSh.l65 S, CSh.l68 S, CSh.l69 S, CSh.l72 S, CSh.l73 S, CSh.l90 S, CSh.l91 S, CSh.p0_0 S, CSh.p0_3 S, CSh.p0_4 S, CSh.p0_5 S, CSh.p0_6 S, CSh.p0_7 S, CSh.p0_8 S, CSh.p0_9 S, CSh.p0_10 S, CSh.p0_14 S, CSh.p2_0 S, CSh.p26_0 S, CSh.p26_13 S, CSh.p26_14 S, CSh.p31_1 S, CSh.p31_3 S, CSh.p31_4 S, CSh.p62_0 S, CSh.p66_0 S, CSh.p70_0 S, CSh.p74_0 S, CSh.p74_1 S, CSh.p74_6 S, CSh.p74_7 S, CSh.p74_10 S, CSh.p80_1 S, CSh.p80_2 S, CSh.p80_3 S, CSh.p80_4 S, CSh.p80_5 S, CSh.p80_6 S, CSh.p80_7 S, CSh.p80_8 S, CSh.p53_1 S, CSh.p53_2 S, CSh.p59_1 S, CSh.p59_2 S, CSh.p63_1 S, CSh.p63_2 S, CSh.p67_1 S, CSh.p67_2 S, CSh.p71_1 S, CSh.p71_2 S, CSh.p89_1 S, CSh.p89_2 S, fd0, fd1, fd2, fd3, fd4, fd5, fd6, fd7, fd8, fd9, fd10, fd11, fd12, fd13, fd14, fd15, fd16, fd17, fd18, fd19, fd20, fd21, fd22, fd23, fd24, fd25, fd26, fd27, fd28, fd29, fd30, fd31, fd32, fd33, fd34, fd35, fd36, fd37, fd38, fd39, fd40, fd41, fd42, fd43, fd44, fd45, fd46, fd47, fd48, fd49, fd50, fd51, fd52, c12, hw, -Int.reduceToNat, -Int32.reduceToNatClampNeg, il0, il1, il2, il3, il4, il5, il6, il7, il8, il9, il10, il11, il12, il13, il14, il15, il16, il17, il18, il19, il20, il21, il22, il23, il24, il25, il26, il27, il28, il29, il30, il31, il32, il35, il36, il38, il40, il42, il43, il44, il45, il46, il47, il48, il49, il50, il51, il52, il57, il59, il60, il63, il64, il75, il80, il95, il96, il97, il98, il99, il100, il120, il122, il123, il127, il128, il135, il167, il175, il225, il249, il250, il255, il256, il360, il370, il384, il600, il700, il740, il900, il940, il1024, il1600, il4800, il64000, il125000, il262143, il1000000000, iI_toInt, iI_add, iI_sub, iI_mul, iI_neg, iI_lt, iI_le, iI_eq, iI_n, iI_in, iI_div, iI_mod, iI_shm, iI_and1, iI_and7, iI_and63, iI_shr3, iI_shr6, rd_I, ob, Option.some.injEq, exists_eq_left', exists_eq_left, true_and, and_true, fqI, fqJ, eq_self, true_or, or_true, bP_0, bP_0i, npP, bP_1i, bP_b, not_true_eq_false, not_false_eq_true, false_implies, true_implies, implies_true, Classical.not_not, and_self]
  refine ⟨fun c6 => ⟨fun n17 => ?_, fun e17 => ?_⟩, fun c6 => ?_⟩
  · refine c_readRaft R H h5 rb NM (by omega) fun g f' fa' p' a' v t R1 RR => ?_
    have rng := RR.rng rb.1
    have st := RR.st (ok := fun r q => iteP (w = 15) (siS T n m q fun sd q' => okR (upA A c sd r) N (c + 1) q') (okR (upA A c 4 r) N (c + 1) q))
    have e : iteP (f = 0) (acS T n m N rc w A c a p) (bdR f fa) = iteP (f' = 0) (iteP (w = 15) (siS T n m p' fun sd q' => okR (upA A c sd v) N (c + 1) q') (iteP (w = 16) (okR (upA A c 4 v) N (c + 1) p') (okR (upA A c 5 v) N (c + 1) p'))) (bdR f' fa') := by
      rw [← show iteP (f' = 0) (iteP (w = 15) (siS T n m p' fun sd q' => okR (upA A c sd v) N (c + 1) q') (okR (upA A c 4 v) N (c + 1) p')) (bdR f' fa') = iteP (f' = 0) (iteP (w = 15) (siS T n m p' fun sd q' => okR (upA A c sd v) N (c + 1) q') (iteP (w = 16) (okR (upA A c 4 v) N (c + 1) p') (okR (upA A c 5 v) N (c + 1) p'))) (bdR f' fa') by
        by_cases z : f' = 0
        · rw [ite_t z, ite_t z]
          have w3 := wz (by rcases RR with u | u | u | u <;> omega)
          by_cases z5 : w = 15
          · rw [ite_t z5, ite_t z5]
          · rw [ite_f z5, ite_f z5, ite_t (show w = 16 by omega)]
        · rw [ite_f z, ite_f z]]
      rw [← st]
      by_cases z : f = 0
      · rw [ite_t z, ite_t z]
        unfold acS
        rw [ite_t (wz z), ite_t c6, ite_f n17]
      · rw [ite_f z, ite_f z]
    rw [e] at K
    exact c_act73 R1 (P.tf t) ⟨hc.1, c6⟩ wb (by omega) fun h' po => K h' (po.from t.f26)
  · refine c_readNumber R (by omega) (by omega) fun g f' fa' p' a' v t R1 NR1 => ?_
    have rng := NR1.rng
    have st := NR1.st (ok := fun v q => okR (upA A c 5 v) N (c + 1) q)
    have e : iteP (f = 0) (acS T n m N rc w A c a p) (bdR f fa) = iteP (f' = 0) (iteP (w = 15) (siS T n m p' fun sd q' => okR (upA A c sd v) N (c + 1) q') (iteP (w = 16) (okR (upA A c 4 v) N (c + 1) p') (okR (upA A c 5 v) N (c + 1) p'))) (bdR f' fa') := by
      rw [ite_f (show ¬ w = 15 by omega), ite_f (show ¬ w = 16 by omega), ← st]
      by_cases z : f = 0
      · rw [ite_t z, ite_t z]
        unfold acS
        rw [ite_t (wz z), ite_t c6, ite_t e17]
      · rw [ite_f z, ite_f z]
    rw [e] at K
    exact c_act73 R1 (P.tf t) ⟨hc.1, c6⟩ wb (by omega) fun h' po => K h' (po.from t.f26)
  · by_cases z : f = 0
    · subst z
      rw [ite_t rfl] at K
      unfold acS at K
      rw [ite_t (wz rfl), ite_f c6] at K
      exact c_fail0 R (by omega) fun h' t R' => K h' ⟨t.f26, Or.inl ⟨by show (4 : Int) ≠ 0; omega, p, a, R'⟩⟩
    · rw [ite_f z] at K
      exact c_failF R z (K h ⟨(Fr.refl h).mono (by simp) (by simp) (by simp), Or.inl ⟨z, p, a, R⟩⟩)
theorem c_act (R : RD T n m h 26 3 27 0 fa p a) (P : PA h A c) (hc : 0 ≤ c ∧ c ≤ 60) (H : LB h la) (hl : la = 5 ∨ la = 32) (h5 : rd h la 5 = rc) (rb : 0 ≤ rc ∧ rc ≤ 8) (NM : NmL h la rc N) (hw : rd h 26 9 = w) (wb : -2147483648 ≤ w ∧ w < 2147483648) (K : ∀ h', PO T n m h h' (acS T n m N rc w A c a p) → postV h') : wp_X3_readAct h 26 la postV := by
  have S := P.S
  have ok : (w = 15 ∨ w = 16 ∨ w = 17) → wb_X3_readAct_32 h 26 la postV := fun w3 => c_act32 R P hc H hl h5 rb NM hw wb (fun _ => w3) fun h' po => K h' (by rw [ite_t rfl] at po; exact po)
  unfold wp_X3_readAct
  simp (disch := omega) only [CSh.o0 S, CSh.o1 S, CSh.o2 S, CSh.o3 S, CSh.o26 S, CSh.o27 S, CSh.o29 S, CSh.o30 S, CSh.o31 S, CSh.o56 S, CSh.o57 S, CSh.o58 S, CSh.o62 S, CSh.o66 S, CSh.o70 S, CSh.o74 S, CSh.o75 S, CSh.o77 S, CSh.o79 S, CSh.o80 S, CSh.o81 S, CSh.o82 S, CSh.o83 S, CSh.o84 S, CSh.o85 S, CSh.o86 S, CSh.o87 S, CSh.o88 S, CSh.o53 S, CSh.o54 S, CSh.o55 S, CSh.o59 S, CSh.o60 S, CSh.o61 S, CSh.o63 S, CSh.o64 S, CSh.o65 S, CSh.o67 S, CSh.o68 S, CSh.o69 S, CSh.o71 S, CSh.o72 S, CSh.o73 S, CSh.o89 S, CSh.o90 S, CSh.o91 S, CSh.l1 S, CSh.l3 S, CSh.l27 S, CSh.l29 S, CSh.l30 S, CSh.l56 S, CSh.l57 S, CSh.l58 S, CSh.l75 S, CSh.l77 S, CSh.l79 S, CSh.l81 S, CSh.l82 S, CSh.l83 S, CSh.l84 S, CSh.l85 S, CSh.l86 S, CSh.l87 S, CSh.l88 S, CSh.l54 S, CSh.l55 S, CSh.l60 S, CSh.l61 S, CSh.l64 S, CSh.l65 S, CSh.l68 S, CSh.l69 S, CSh.l72 S, CSh.l73 S, CSh.l90 S, CSh.l91 S, CSh.p0_0 S, CSh.p0_3 S, CSh.p0_4 S, CSh.p0_5 S, CSh.p0_6 S, CSh.p0_7 S, CSh.p0_8 S, CSh.p0_9 S, CSh.p0_10 S, CSh.p0_14 S, CSh.p2_0 S, CSh.p26_0 S, CSh.p26_13 S, CSh.p26_14 S, CSh.p31_1 S, CSh.p31_3 S, CSh.p31_4 S, CSh.p62_0 S, CSh.p66_0 S, CSh.p70_0 S, CSh.p74_0 S, CSh.p74_1 S, CSh.p74_6 S, CSh.p74_7 S, CSh.p74_10 S, CSh.p80_1 S, CSh.p80_2 S, CSh.p80_3 S, CSh.p80_4 S, CSh.p80_5 S, CSh.p80_6 S, CSh.p80_7 S, CSh.p80_8 S, CSh.p53_1 S, CSh.p53_2 S, CSh.p59_1 S, CSh.p59_2 S, CSh.p63_1 S, CSh.p63_2 S, CSh.p67_1 S, CSh.p67_2 S, CSh.p71_1 S, CSh.p71_2 S, CSh.p89_1 S, CSh.p89_2 S, fd0, fd1, fd2, fd3, fd4, fd5, fd6, fd7, fd8, fd9, fd10, fd11, fd12, fd13, fd14, fd15, fd16, fd17, fd18, fd19, fd20, fd21, fd22, fd23, fd24, fd25, fd26, fd27, fd28, fd29, fd30, fd31, fd32, fd33, fd34, fd35, fd36, fd37, fd38, fd39, fd40, fd41, fd42, fd43, fd44, fd45, fd46, fd47, fd48, fd49, fd50, fd51, fd52, hw, -Int.reduceToNat, -Int32.reduceToNatClampNeg, il0, il1, il2, il3, il4, il5, il6, il7, il8, il9, il10, il11, il12, il13, il14, il15, il16, il17, il18, il19, il20, il21, il22, il23, il24, il25, il26, il27, il28, il29, il30, il31, il32, il35, il36, il38, il40, il42, il43, il44, il45, il46, il47, il48, il49, il50, il51, il52, il57, il59, il60, il63, il64, il75, il80, il95, il96, il97, il98, il99, il100, il120, il122, il123, il127, il128, il135, il167, il175, il225, il249, il250, il255, il256, il360, il370, il384, il600, il700, il740, il900, il940, il1024, il1600, il4800, il64000, il125000, il262143, il1000000000, iI_toInt, iI_add, iI_sub, iI_mul, iI_neg, iI_lt, iI_le, iI_eq, iI_n, iI_in, iI_div, iI_mod, iI_shm, iI_and1, iI_and7, iI_and63, iI_shr3, iI_shr6, rd_I, ob, Option.some.injEq, exists_eq_left', exists_eq_left, true_and, and_true, fqI, fqJ, eq_self, true_or, or_true, bP_0, bP_0i, npP, bP_1i, bP_b, not_true_eq_false, not_false_eq_true, false_implies, true_implies, implies_true, Classical.not_not, and_self]
  refine ⟨fun z => ok (by omega), fun z1 => ⟨fun z => ok (by omega), fun z2 => ⟨fun z => ok (by omega), fun z3 => ?_⟩⟩⟩
  refine c_fail0 R (by omega) fun g t R1 => ?_
  have row : rd g la 5 = rc := by rw [t.1.row (by simp; omega)]; exact h5
  refine c_act32 R1 (P.tf t) hc (LB.same t.1.1 t.1.2.2.1 t.1.2.2.2.1 t.1.aPe H) hl row rb (fun r r0 r1 => by rw [t.1.row (by simp; omega)]; exact NM r r0 r1) rfl (rd_bd _ _ _) (fun z => by omega) fun h' po => K h' ?_
  rw [ite_f (by omega)] at po
  unfold acS
  rw [ite_f (by omega)]
  exact po.from t.f26
def POL (T : Int → Int) (n m : Int) (h h' : AH) (v : Int) (r : RT) : Prop := Fr [26, 29, 30] [] [] h h' ∧ ((r.1 ≠ 0 ∧ ∃ p a, RD T n m h' 26 3 27 r.1 r.2.1 p a) ∨ (r.1 = 0 ∧ (∃ fa p a, RD T n m h' 26 3 27 0 fa p a) ∧ PA h' r.2.2.1 r.2.2.2.2.1 ∧ v = r.2.2.2.2.1))
theorem POL.from {r : RT} (t : Fr [26, 29, 30] [] [] h h1) (c : POL T n m h1 h' v r) : POL T n m h h' v r := ⟨t.trans c.1, c.2⟩
theorem c_acts46 (R : RD T n m h 26 3 27 f fa p a) (K : post h (iI (rd h 26 12))) : wb_X3_readActs_46 h 26 post := by
  have O := R.o
  unfold wb_X3_readActs_46
  simp (disch := omega) only [O, fd0, fd1, fd2, fd3, fd4, fd5, fd6, fd7, fd8, fd9, fd10, fd11, fd12, fd13, fd14, fd15, fd16, fd17, fd18, fd19, fd20, fd21, fd22, fd23, fd24, fd25, fd26, fd27, fd28, fd29, fd30, fd31, fd32, fd33, fd34, fd35, fd36, fd37, fd38, fd39, fd40, fd41, fd42, fd43, fd44, fd45, fd46, fd47, fd48, fd49, fd50, fd51, fd52, -Int.reduceToNat, -Int32.reduceToNatClampNeg, il0, il1, il2, il3, il4, il5, il6, il7, il8, il9, il10, il11, il12, il13, il14, il15, il16, il17, il18, il19, il20, il21, il22, il23, il24, il25, il26, il27, il28, il29, il30, il31, il32, il35, il36, il38, il40, il42, il43, il44, il45, il46, il47, il48, il49, il50, il51, il52, il57, il59, il60, il63, il64, il75, il80, il95, il96, il97, il98, il99, il100, il120, il122, il123, il127, il128, il135, il167, il175, il225, il249, il250, il255, il256, il360, il370, il384, il600, il700, il740, il900, il940, il1024, il1600, il4800, il64000, il125000, il262143, il1000000000, iI_toInt, iI_add, iI_sub, iI_mul, iI_neg, iI_lt, iI_le, iI_eq, iI_n, iI_in, iI_div, iI_mod, iI_shm, iI_and1, iI_and7, iI_and63, iI_shr3, iI_shr6, rd_I, ob, Option.some.injEq, exists_eq_left', exists_eq_left, true_and, and_true, fqI, fqJ, eq_self, true_or, or_true, bP_0, bP_0i, npP, bP_1i, bP_b, not_true_eq_false, not_false_eq_true, false_implies, true_implies, implies_true, Classical.not_not, and_self]
  exact K
theorem c_actsF {kk : Nat} (R : RD T n m h 26 3 27 f fa p a) (hf : f ≠ 0) (hi : 0 ≤ i ∧ i ≤ 100) (K : post h (iI (rd h 26 12))) : wl_X3_readActs_17 post (kk + 1) h 26 la (iI i) := by
  show wb_X3_readActs_17 (wl_X3_readActs_17 post kk) h 26 la (iI i) post
  unfold wb_X3_readActs_17
  refine ⟨fun _ => c_acts46 R K, fun _ => ⟨R.o, c_goesOn R (fun _ => ⟨fun _ => c_acts46 R K, fun z => absurd rfl z⟩) (fun z => absurd z hf) (fun z => absurd z hf)⟩⟩
theorem c_acts (hl : la = 5 ∨ la = 32) (rb : 0 ≤ rc ∧ rc ≤ 8) : ∀ (dd : Nat) (h : AH) (A : Int → Int) (fa p a c : Int), RD T n m h 26 3 27 0 fa p a → PA h A c → LB h la → rd h la 5 = rc → NmL h la rc N → AOk A c rc → c + dd = 62 → 0 ≤ c → c ≤ 60 → (∀ h' v, POL T n m h h' v (psS T n m N rc dd A c p) → post h' (iI v)) → wl_X3_readActs_17 post (dd + 1) h 26 la (iI c) := by
  intro dd
  induction dd with
  | zero => intro h A fa p a c R P H h5 NM AO hd c0 c6; omega
  | succ dd ih =>
    intro h A fa p a c R P H h5 NM AO hd c0 c6 K
    have hp := R.hp
    have hn := R.hn
    have hm := R.hm
    have bk := tk_bd (T := T) hp hm.1
    show wb_X3_readActs_17 (wl_X3_readActs_17 post (dd + 1)) h 26 la (iI c) post
    unfold wb_X3_readActs_17
    refine ⟨fun u => by rw [show (60 : Int32) = iI 60 from rfl, iI_lt (by omega) (by omega) (by omega) (by omega)] at u; omega, fun _ => ⟨R.o, c_goesOn R (fun z => absurd rfl z) (fun _ k4 g f' fa' p' a' t Rg z1 z2 => ⟨fun _ => ?_, fun z => absurd rfl z⟩) (fun _ k4 g t Rg Ad => ⟨fun z => absurd z (by decide), fun _ => ⟨Rg.o, ?_⟩⟩)⟩⟩
    · have P1 := P.tf t
      refine c_acts46 Rg ?_
      rw [P1.c12]
      refine K g c ?_
      show POL T n m h g c (iteP _ _ _)
      rw [ite_t k4]
      by_cases nm : n ≤ m
      · have f0 := z1 nm
        subst f0
        rw [ite_t nm]
        exact ⟨t.f26, Or.inr ⟨rfl, ⟨_, _, _, Rg⟩, P1, rfl⟩⟩
      · obtain ⟨f1, fa1⟩ := z2 (by omega)
        subst f1 fa1
        rw [ite_f nm]
        exact ⟨t.f26, Or.inl ⟨by show (1 : Int) ≠ 0; omega, _, _, Rg⟩⟩
    · obtain ⟨t0, a4, a5, a6, a7, a8, a9⟩ := Ad
      have w9 : rd g 26 9 = wdI T n m p := by
        unfold wdI
        by_cases k1 : tkK T n m p = 1
        · rw [ite_t k1]; exact (a7 k1).2
        · rw [ite_f k1]; exact a9 k1
      have wb := wd_b (T := T) (n := n) (m := m) (p := p)
      have la1 : ∀ j, j ≤ 20 → la + j ≠ 26 := fun j hj => by omega
      have lb : ∀ {g1}, Fr [26, 29, 30] [] [] h g1 → LB g1 la ∧ rd g1 la 5 = rc ∧ NmL g1 la rc N := fun {g1} F => ⟨LB.same F.1 F.2.2.1 F.2.2.2.1 F.aPe H, by rw [F.row (by simp; omega)]; exact h5, fun r r0 r1 => by rw [F.row (by simp; omega)]; exact NM r r0 r1⟩
      obtain ⟨Hg, h5g, NMg⟩ := lb t.f26
      refine c_act Rg (P.tf t) ⟨c0, c6⟩ Hg hl h5g rb NMg w9 (by omega) fun g2 po => ?_
      have LN := an_ok (n := n) (T := T) (m := m) (N := N) (rc := rc) (w := wdI T n m p) (a := tkA T n m p) (p := tkE T n m p) AO rb.1 (by omega) hm.1
      obtain ⟨F2, cc⟩ := po
      have Ks : ∀ h' v, POL T n m h h' v (iteP ((anS T n m N rc (wdI T n m p) A c (tkA T n m p) (tkE T n m p)).1 = 0) (psS T n m N rc dd (anS T n m N rc (wdI T n m p) A c (tkA T n m p) (tkE T n m p)).2.2.1 (anS T n m N rc (wdI T n m p) A c (tkA T n m p) (tkE T n m p)).2.2.2.2.1 (anS T n m N rc (wdI T n m p) A c (tkA T n m p) (tkE T n m p)).2.2.2.2.2) (anS T n m N rc (wdI T n m p) A c (tkA T n m p) (tkE T n m p))) → post h' (iI v) := fun h' v z => K h' v (by
        show POL T n m h h' v (iteP _ _ _)
        rw [ite_f k4]
        exact z)
      have nx : ∀ iv2 : Int32, iv2 = iI c + 1 → iv2 = iI (c + 1) := fun iv2 e => by rw [e, show (1 : Int32) = iI 1 from rfl, iI_add]
      unfold anS at Ks LN
      generalize hr : acS T n m N rc (wdI T n m p) A c (tkA T n m p) (tkE T n m p) = r at Ks LN cc
      rcases cc with ⟨r1, pp, aa, R2⟩ | ⟨r1, fa2, aa, R2, P2⟩
      · rw [ite_f r1, ite_f r1] at Ks
        refine ⟨R2.o, c_readStop R2 fun g3 f3 fa3 p3 a3 t3 R3 SR iv2 e2 => ?_⟩
        rw [nx iv2 e2]
        rcases SR with ⟨u1, u2, u3⟩ | u | u
        · subst u2 u3
          exact c_actsF R3 r1 (by omega) (Ks g3 _ ⟨t.f26.trans (F2.trans t3.f26), Or.inl ⟨r1, _, _, R3⟩⟩)
        · exact absurd u.1 r1
        · exact absurd u.1 r1
      · refine ⟨R2.o, c_readStop R2 fun g3 f3 fa3 p3 a3 t3 R3 SR iv2 e2 => ?_⟩
        rw [nx iv2 e2]
        rcases SR with u | ⟨u1, u2, u3, u4⟩ | ⟨u1, u2, u3, u4, u5⟩
        · exact absurd rfl u.1
        · rw [ite_t r1, ite_f u2, ite_f (show ¬ (bdR 1 (tkA T n m r.2.2.2.2.2)).1 = 0 by show ¬ (1 : Int) = 0; omega)] at Ks
          subst u3 u4
          exact c_actsF R3 (by omega) (by omega) (Ks g3 _ ⟨t.f26.trans (F2.trans t3.f26), Or.inl ⟨by show (1 : Int) ≠ 0; omega, _, _, R3⟩⟩)
        · rw [ite_t r1, ite_t u2] at LN
          obtain ⟨N1, N2, N3, N4, N5⟩ := LN rfl
          rw [ite_t r1, ite_t u2, ite_t rfl] at Ks
          subst u3 u5
          have N2 : r.2.2.2.2.1 = c + 1 := N2
          obtain ⟨H3, h53, NM3⟩ := lb (t.f26.trans (F2.trans t3.f26))
          have P3 := P2.tf t3
          have Ks : ∀ h' v, POL T n m h h' v (psS T n m N rc dd r.2.2.1 r.2.2.2.2.1 (tkE T n m r.2.2.2.2.2)) → post h' (iI v) := Ks
          rw [N2] at P3 Ks
          exact ih g3 _ _ _ _ (c + 1) R3 P3 H3 h53 NM3 N1 (by omega) (by omega) (by omega) fun h' v z => Ks h' v (z.from (t.f26.trans (F2.trans t3.f26)))
theorem c_readActs (S : CSh h) (X : TXs h T) (B : TBl h 26 27) (hl : la = 5 ∨ la = 32) (rb : 0 ≤ rc ∧ rc ≤ 8) (H : LB h la) (h5 : rd h la 5 = rc) (NM : NmL h la rc N) (hn : 0 ≤ n ∧ n ≤ 940) (K : ∀ g h' v, g = hP h 26 1 1 → POL T n 700 g h' v (psS T n 700 N rc 62 (fun _ => 0) 0 0) → post h' (iI v)) : wp_X3_readActs h 26 la 1 (iI n) post := by
  unfold wp_X3_readActs
  rw [show (700 : Int32) = iI 700 from rfl]
  refine ⟨S.o26, c_begin (m := 700) S.o26 X B (by omega) hn (by omega) fun g g1 eg F1 rest R1 => ?_⟩
  have gg : Gr [] [] [(26, 1)] h g := by
    rw [eg]
    exact gr_hP1 (k := 1) (by decide)
  have Sg := S.gr gg
  have S1 := Sg.gr F1.gr
  refine ⟨R1.o, fun g2 w2 => ?_⟩
  rw [show (0 : Int32) = iI 0 from rfl] at w2 ⊢
  obtain ⟨F2, r2⟩ := wI (i := 12) (by omega) (by omega) (by omega) w2
  have FF : Fr [26, 29, 30] [] [] g g2 := (F1.mono (by simp) (by simp) (by simp)).trans (F2.mono (by simp) (by simp) (by simp))
  have rowg : rd g = rd h := by rw [eg]; rfl
  exact ⟨_, c_acts hl rb 62 g2 (fun _ => 0) 0 0 0 0 (R1.a12 F2 r2) ⟨S1.gr F2.gr, by rw [r2, updT_s], fun k k0 k1 => by omega⟩ (LB.same FF.1 FF.2.2.1 FF.2.2.2.1 FF.aPe (H.gr gg (by omega))) (by rw [FF.row (by simp; omega), rowg]; exact h5) (fun r r0 r1 => by rw [FF.row (by simp; omega), rowg]; exact NM r r0 r1) (fun k k0 k1 => by omega) (by omega) (by omega) (by omega) fun h' v co => K g h' v eg (co.from FF)⟩
end CPL
