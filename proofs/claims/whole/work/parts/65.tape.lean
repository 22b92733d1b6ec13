/-! the tape; calls that throw; small answers -/
noncomputable def byv (x : Int32) (k : Int) : Int := (vp_nar .byte ((x >>> iI k).toInt8.toInt32)).toInt
theorem by_I (x : Int32) (k : Int) : vp_nar .byte ((x >>> iI k).toInt8.toInt32) = iI (byv x k) := (iI_of _).symm
theorem byv_bd (x : Int32) (k : Int) : -128 ≤ byv x k ∧ byv x k ≤ 127 := by
  unfold byv
  rw [vp_nar_byte, Int8.toInt_toInt32]
  have a := Int8.le_toInt ((x >>> iI k).toInt8.toInt32.toInt8)
  have b := Int8.toInt_lt ((x >>> iI k).toInt8.toInt32.toInt8)
  omega
noncomputable def put4 (t : Int → Int) (l : Int) (x : Int32) : Int → Int := updT (updT (updT (updT t l (byv x 24)) (l + 1) (byv x 16)) (l + 1 + 1) (byv x 8)) (l + 1 + 1 + 1) (byv x 0)
noncomputable def feedT (t : Int → Int) (l : Int) (a b c d e : Int32) : Int → Int := put4 (put4 (put4 (put4 (put4 t l a) (l + 4) b) (l + 8) c) (l + 12) d) (l + 16) e
theorem updT_by {t : Int → Int} {l v : Int} (ht : ∀ k, -128 ≤ t k ∧ t k ≤ 127) (hv : -128 ≤ v ∧ v ≤ 127) : ∀ k, -128 ≤ updT t l v k ∧ updT t l v k ≤ 127 := by
  intro k
  unfold updT
  split
  · exact hv
  · exact ht k
theorem put4_by {t : Int → Int} {l : Int} {x : Int32} (ht : ∀ k, -128 ≤ t k ∧ t k ≤ 127) : ∀ k, -128 ≤ put4 t l x k ∧ put4 t l x k ≤ 127 := updT_by (updT_by (updT_by (updT_by ht (byv_bd _ _)) (byv_bd _ _)) (byv_bd _ _)) (byv_bd _ _)
theorem feedT_by {t : Int → Int} {l : Int} {a b c d e : Int32} (ht : ∀ k, -128 ≤ t k ∧ t k ≤ 127) : ∀ k, -128 ≤ feedT t l a b c d e k ∧ feedT t l a b c d e k ≤ 127 := put4_by (put4_by (put4_by (put4_by (put4_by ht))))
section TAPE
variable {h h1 h2 : AH} {i la fr qa ac : Nat} {postV : AH → Prop} {post : AH → Int32 → Prop} {a b c d r x y n sp sq w hh u hr how one k : Int} {X : Int32}
theorem c_put1 {m : Nat} (S : CSh h) (hl : 0 ≤ rd h 0 1 ∧ rd h 0 1 < 940) (h0 : 0 ≤ k) (hk : k < 32) (kk : ∀ h', Fr [0, 1] [] [] h h' → rd h' 1 = updT (rd h 1) (rd h 0 1) (byv X k) → rd h' 0 = updT (rd h 0) 1 (rd h 0 1 + 1) → wl_X11_putBytes_3 postV m h' 0 X (iI (k + -8))) : wl_X11_putBytes_3 postV (m + 1) h 0 X (iI k) := by
  show wb_X11_putBytes_3 (wl_X11_putBytes_3 postV m) h 0 X (iI k) postV
  unfold wb_X11_putBytes_3 wb_X11_putBytes_40
  have bb := byv_bd X k
  simp (disch := omega) only [CSh.o0 S, CSh.o1 S, CSh.o2 S, CSh.o3 S, CSh.o26 S, CSh.o27 S, CSh.o29 S, CSh.o30 S, CSh.o31 S, CSh.o56 S, CSh.o57 S, CSh.o58 S, CSh.o62 S, CSh.o66 S, CSh.o70 S, CSh.o74 S, CSh.o75 S, CSh.o77 S, CSh.o79 S, CSh.o80 S, CSh.o81 S, CSh.o82 S, CSh.o83 S, CSh.o84 S, CSh.o85 S, CSh.o86 S, CSh.o87 S, CSh.o88 S, CSh.o53 S, CSh.o54 S, CSh.o55 S, CSh.o59 S, CSh.o60 S, CSh.o61 S, CSh.o63 S, CSh.o64 S, CSh.o65 S, CSh.o67 S, CSh.o68 S, CSh.o69 S, CSh.o71 S, CSh.o72 S, CSh.o73 S, CSh.o89 S, CSh.o90 S, CSh.o91 S, CSh.l1 S, CSh.l3 S, CSh.l27 S, CSh.l29 S, CSh.l30 S, CSh.l56 S, CSh.l57 S, CSh.l58 S, CSh.l75 S, CSh.l77 S, CSh.l79 S, CSh.l81 S, CSh.l82 S, CSh.l83 S, CSh.l84 S, CSh.l85 S, CSh.l86 S, CSh.l87 S, CSh.l88 S, CSh.l54 S, CSh.l55 S, CSh.l60 S, CSh.l61 S, CSh.l64 S, CSh.l65 S, CSh.l68 S, CSh.l69 S, CSh.l72 S, CSh.l73 S, CSh.l90 S, CSh.l91 S, CSh.p0_0 S, CSh.p0_3 S, CSh.p0_4 S, CSh.p0_5 S, CSh.p0_6 S, CSh.p0_7 S, CSh.p0_8 S, CSh.p0_9 S, CSh.p0_10 S, CSh.p0_14 S, CSh.p2_0 S, CSh.p26_0 S, CSh.p26_13 S, CSh.p26_14 S, CSh.p31_1 S, CSh.p31_3 S, CSh.p31_4 S, CSh.p62_0 S, CSh.p66_0 S, CSh.p70_0 S, CSh.p74_0 S, CSh.p74_1 S, CSh.p74_6 S, CSh.p74_7 S, CSh.p74_10 S, CSh.p80_1 S, CSh.p80_2 S, CSh.p80_3 S, CSh.p80_4 S, CSh.p80_5 S, CSh.p80_6 S, CSh.p80_7 S, CSh.p80_8 S, CSh.p53_1 S, CSh.p53_2 S, CSh.p59_1 S, CSh.p59_2 S, CSh.p63_1 S, CSh.p63_2 S, CSh.p67_1 S, CSh.p67_2 S, CSh.p71_1 S, CSh.p71_2 S, CSh.p89_1 S, CSh.p89_2 S, fd0, fd1, fd2, fd3, fd4, fd5, fd6, fd7, fd8, fd9, fd10, fd11, fd12, fd13, fd14, fd15, fd16, fd17, fd18, fd19, fd20, fd21, fd22, fd23, fd24, fd25, fd26, fd27, fd28, fd29, fd30, fd31, fd32, fd33, fd34, fd35, fd36, fd37, fd38, fd39, fd40, fd41, fd42, fd43, fd44, fd45, fd46, fd47, fd48, fd49, fd50, fd51, fd52, -Int.reduceToNat, -Int32.reduceToNatClampNeg, il0, il1, il2, il3, il4, il5, il6, il7, il8, il9, il10, il11, il12, il13, il14, il15, il16, il17, il18, il19, il20, il21, il22, il23, il24, il25, il26, il27, il28, il29, il30, il31, il32, il35, il36, il38, il40, il42, il43, il44, il45, il46, il47, il48, il49, il50, il51, il52, il57, il59, il60, il63, il64, il75, il80, il95, il96, il97, il98, il99, il100, il120, il122, il123, il127, il128, il135, il167, il175, il225, il249, il250, il255, il256, il360, il370, il384, il600, il700, il740, il900, il940, il1024, il1600, il4800, il64000, il125000, il262143, il1000000000, iI_toInt, iI_add, iI_sub, iI_mul, iI_neg, iI_lt, iI_le, iI_eq, iI_n, iI_in, iI_div, iI_mod, iI_shm, iI_and1, iI_and7, iI_and63, iI_shr3, iI_shr6, rd_I, ob, Option.some.injEq, exists_eq_left', exists_eq_left, true_and, and_true, fqI, fqJ, eq_self, true_or, or_true, bP_0, bP_0i, npP, bP_1i, bP_b, not_true_eq_false, not_false_eq_true, false_implies, true_implies, implies_true, Classical.not_not, and_self, cP, cP', ite_n, ite_T, ite_F, ite_t, ite_f, by_I]
  intro h2 e2
  obtain ⟨f2, r2⟩ := wI (by omega) (by omega) (by omega) e2
  have S2 := S.gr f2.gr
  have e0 : rd h2 0 = rd h 0 := f2.row (by decide)
  simp (disch := omega) only [CSh.o0 S2, CSh.o1 S2, CSh.o2 S2, CSh.o3 S2, CSh.o26 S2, CSh.o27 S2, CSh.o29 S2, CSh.o30 S2, CSh.o31 S2, CSh.o56 S2, CSh.o57 S2, CSh.o58 S2, CSh.o62 S2, CSh.o66 S2, CSh.o70 S2, CSh.o74 S2, CSh.o75 S2, CSh.o77 S2, CSh.o79 S2, CSh.o80 S2, CSh.o81 S2, CSh.o82 S2, CSh.o83 S2, CSh.o84 S2, CSh.o85 S2, CSh.o86 S2, CSh.o87 S2, CSh.o88 S2, CSh.o53 S2, CSh.o54 S2, CSh.o55 S2, CSh.o59 S2, CSh.o60 S2, CSh.o61 S2, CSh.o63 S2, CSh.o64 S2, CSh.o65 S2, CSh.o67 S2, CSh.o68 S2, CSh.o69 S2, CSh.o71 S2, CSh.o72 S2, CSh.o73 S2, CSh.o89 S2, CSh.o90 S2, CSh.o91 S2, CSh.l1 S2, CSh.l3 S2, CSh.l27 S2, CSh.l29 S2, CSh.l30 S2, CSh.l56 S2, CSh.l57 S2, CSh.l58 S2, CSh.l75 S2, CSh.l77 S2, CSh.l79 S2, CSh.l81 S2, CSh.l82 S2, CSh.l83 S2, CSh.l84 S2, CSh.l85 S2, CSh.l86 S2, CSh.l87 S2, CSh.l88 S2, CSh.l54 S2, CSh.l55 S2, CSh.l60 S2, CSh.l61 S2, CSh.l64 S2, CSh.l65 S2, CSh.l68 S2, CSh.l69 S2, CSh.l72 S2, CSh.l73 S2, CSh.l90 S2, CSh.l91 S2, CSh.p0_0 S2, CSh.p0_3 S2, CSh.p0_4 S2, CSh.p0_5 S2, CSh.p0_6 S2, CSh.p0_7 S2, CSh.p0_8 S2, CSh.p0_9 S2, CSh.p0_10 S2, CSh.p0_14 S2, CSh.p2_0 S2, CSh.p26_0 S2, CSh.p26_13 S2, CSh.p26_14 S2, CSh.p31_1 S2, CSh.p31_3 S2, CSh.p31_4 S2, CSh.p62_0 S2, CSh.p66_0 S2, CSh.p70_0 S2, CSh.p74_0 S2, CSh.p74_1 S2, CSh.p74_6 S2, CSh.p74_7 S2, CSh.p74_10 S2, CSh.p80_1 S2, CSh.p80_2 S2, CSh.p80_3 S2, CSh.p80_4 S2, CSh.p80_5 S2, CSh.p80_6 S2, CSh.p80_7 S2, CSh.p80_8 S2, CSh.p53_1 S2, CSh.p53_2 S2, CSh.p59_1 S2, CSh.p59_2 S2, CSh.p63_1 S2, CSh.p63_2 S2, CSh.p67_1 S2, CSh.p67_2 S2, CSh.p71_1 S2, CSh.p71_2 S2, CSh.p89_1 S2, CSh.p89_2 S2, fd0, fd1, fd2, fd3, fd4, fd5, fd6, fd7, fd8, fd9, fd10, fd11, fd12, fd13, fd14, fd15, fd16, fd17, fd18, fd19, fd20, fd21, fd22, fd23, fd24, fd25, fd26, fd27, fd28, fd29, fd30, fd31, fd32, fd33, fd34, fd35, fd36, fd37, fd38, fd39, fd40, fd41, fd42, fd43, fd44, fd45, fd46, fd47, fd48, fd49, fd50, fd51, fd52, -Int.reduceToNat, -Int32.reduceToNatClampNeg, il0, il1, il2, il3, il4, il5, il6, il7, il8, il9, il10, il11, il12, il13, il14, il15, il16, il17, il18, il19, il20, il21, il22, il23, il24, il25, il26, il27, il28, il29, il30, il31, il32, il35, il36, il38, il40, il42, il43, il44, il45, il46, il47, il48, il49, il50, il51, il52, il57, il59, il60, il63, il64, il75, il80, il95, il96, il97, il98, il99, il100, il120, il122, il123, il127, il128, il135, il167, il175, il225, il249, il250, il255, il256, il360, il370, il384, il600, il700, il740, il900, il940, il1024, il1600, il4800, il64000, il125000, il262143, il1000000000, iI_toInt, iI_add, iI_sub, iI_mul, iI_neg, iI_lt, iI_le, iI_eq, iI_n, iI_in, iI_div, iI_mod, iI_shm, iI_and1, iI_and7, iI_and63, iI_shr3, iI_shr6, rd_I, ob, Option.some.injEq, exists_eq_left', exists_eq_left, true_and, and_true, fqI, fqJ, eq_self, true_or, or_true, bP_0, bP_0i, npP, bP_1i, bP_b, not_true_eq_false, not_false_eq_true, false_implies, true_implies, implies_true, Classical.not_not, and_self, cP, cP', ite_n, ite_T, ite_F, ite_t, ite_f]
  intro h3 e3
  rw [e0] at e3
  obtain ⟨f3, r3⟩ := wI (i := 1) (by omega) (by omega) (by omega) e3
  refine kk h3 ((f2.mono (by simp) (by simp) (by simp)).trans (f3.mono (by simp) (by simp) (by simp))) ?_ ?_
  · rw [f3.row (by decide), r2]
  · rw [r3, e0]
theorem upd1_1 (t : Int → Int) (a b : Int) : updT (updT t 1 a) 1 b = updT t 1 b := by
  funext j
  unfold updT
  split <;> rfl
theorem upd2_2 (t : Int → Int) (a b : Int) : updT (updT t 2 a) 2 b = updT t 2 b := by
  funext j
  unfold updT
  split <;> rfl
theorem c_putBytes (S : CSh h) (hl : 0 ≤ rd h 0 1 ∧ rd h 0 1 + 4 ≤ 940) (kk : ∀ h', Fr [0, 1] [] [] h h' → rd h' 1 = put4 (rd h 1) (rd h 0 1) X → rd h' 0 = updT (rd h 0) 1 (rd h 0 1 + 4) → postV h') : wp_X11_putBytes h 0 X postV := by
  refine ⟨5, ?_⟩
  show wl_X11_putBytes_3 postV (4 + 1) h 0 X (iI 24)
  refine c_put1 S (by omega) (by omega) (by omega) fun ha fa ra ta => ?_
  have l1 : rd ha 0 1 = rd h 0 1 + 1 := by rw [ta, updT_s]
  refine c_put1 (m := 3) (k := 16) (S.gr fa.gr) (by omega) (by omega) (by omega) fun hb fb rb tb => ?_
  have l2 : rd hb 0 1 = rd h 0 1 + 1 + 1 := by rw [tb, updT_s, l1]
  refine c_put1 (m := 2) (k := 8) ((S.gr fa.gr).gr fb.gr) (by omega) (by omega) (by omega) fun hc fc rc tc => ?_
  have l3 : rd hc 0 1 = rd h 0 1 + 1 + 1 + 1 := by rw [tc, updT_s, l2]
  refine c_put1 (m := 1) (k := 0) (((S.gr fa.gr).gr fb.gr).gr fc.gr) (by omega) (by omega) (by omega) fun hd fd rd' td => ?_
  show wb_X11_putBytes_3 (wl_X11_putBytes_3 postV 0) hd 0 X (iI (0 + -8)) postV
  unfold wb_X11_putBytes_3
  simp (disch := omega) only [-Int.reduceToNat, -Int32.reduceToNatClampNeg, il0, il1, il2, il3, il4, il5, il6, il7, il8, il9, il10, il11, il12, il13, il14, il15, il16, il17, il18, il19, il20, il21, il22, il23, il24, il25, il26, il27, il28, il29, il30, il31, il32, il35, il36, il38, il40, il42, il43, il44, il45, il46, il47, il48, il49, il50, il51, il52, il57, il59, il60, il63, il64, il75, il80, il95, il96, il97, il98, il99, il100, il120, il122, il123, il127, il128, il135, il167, il175, il225, il249, il250, il255, il256, il360, il370, il384, il600, il700, il740, il900, il940, il1024, il1600, il4800, il64000, il125000, il262143, il1000000000, iI_toInt, iI_add, iI_sub, iI_mul, iI_neg, iI_lt, iI_le, iI_eq, iI_n, iI_in, iI_div, iI_mod, iI_shm, iI_and1, iI_and7, iI_and63, iI_shr3, iI_shr6, rd_I, ob, Option.some.injEq, exists_eq_left', exists_eq_left, true_and, and_true, fqI, fqJ, eq_self, true_or, or_true, bP_0, bP_0i, npP, bP_1i, bP_b, not_true_eq_false, not_false_eq_true, false_implies, true_implies, implies_true, Classical.not_not, and_self, cP, cP', ite_n, ite_T, ite_F, ite_t, ite_f]
  refine kk hd (fa.trans (fb.trans (fc.trans fd))) ?_ ?_
  · rw [rd', rc, rb, ra, l1, l2, l3]
    rfl
  · rw [td, l3, tc, upd1_1, tb, upd1_1, ta, upd1_1]
    congr 1
    omega
theorem m_put1 {m : Nat} (M : MSh h) (hl : 0 ≤ rd h 92 2 ∧ rd h 92 2 < 940) (h0 : 0 ≤ k) (hk : k < 32) (kk : ∀ h', Fr [92, 93] [] [] h h' → rd h' 93 = updT (rd h 93) (rd h 92 2) (byv X k) → rd h' 92 = updT (rd h 92) 2 (rd h 92 2 + 1) → wl_X12_four_3 postV m h' 92 X (iI (k + -8))) : wl_X12_four_3 postV (m + 1) h 92 X (iI k) := by
  show wb_X12_four_3 (wl_X12_four_3 postV m) h 92 X (iI k) postV
  unfold wb_X12_four_3
  have bb := byv_bd X k
  simp (disch := omega) only [MSh.o0 M, MSh.p1 M, MSh.o1 M, MSh.l1 M, MSh.p6 M, MSh.o2 M, MSh.l2 M, MSh.p7 M, MSh.o3 M, MSh.l3 M, MSh.p8 M, MSh.o4 M, MSh.l4 M, MSh.p9 M, MSh.o5 M, MSh.l5 M, MSh.p10 M, MSh.o6 M, MSh.l6 M, MSh.p24 M, MSh.o7 M, MSh.l7 M, MSh.p25 M, MSh.o8 M, MSh.l8 M, MSh.p26 M, MSh.o9 M, MSh.l9 M, MSh.p32 M, MSh.o10 M, MSh.l10 M, MSh.p33 M, MSh.o11 M, MSh.l11 M, MSh.p35 M, MSh.o12 M, MSh.l12 M, MSh.p36 M, MSh.o13 M, MSh.l13 M, MSh.p37 M, MSh.o14 M, MSh.l14 M, MSh.p38 M, MSh.o15 M, MSh.l15 M, MSh.p39 M, MSh.o16 M, MSh.l16 M, MSh.p42 M, MSh.o17 M, MSh.l17 M, MSh.p43 M, MSh.o18 M, MSh.l18 M, MSh.p44 M, MSh.o19 M, MSh.l19 M, MSh.p45 M, MSh.o20 M, MSh.l20 M, MSh.p46 M, MSh.o21 M, MSh.l21 M, MSh.p47 M, MSh.o22 M, MSh.l22 M, MSh.p50 M, MSh.o23 M, MSh.l23 M, MSh.p51 M, MSh.o24 M, MSh.l24 M, MSh.p52 M, MSh.o25 M, MSh.l25 M, fd0, fd1, fd2, fd3, fd4, fd5, fd6, fd7, fd8, fd9, fd10, fd11, fd12, fd13, fd14, fd15, fd16, fd17, fd18, fd19, fd20, fd21, fd22, fd23, fd24, fd25, fd26, fd27, fd28, fd29, fd30, fd31, fd32, fd33, fd34, fd35, fd36, fd37, fd38, fd39, fd40, fd41, fd42, fd43, fd44, fd45, fd46, fd47, fd48, fd49, fd50, fd51, fd52, -Int.reduceToNat, -Int32.reduceToNatClampNeg, il0, il1, il2, il3, il4, il5, il6, il7, il8, il9, il10, il11, il12, il13, il14, il15, il16, il17, il18, il19, il20, il21, il22, il23, il24, il25, il26, il27, il28, il29, il30, il31, il32, il35, il36, il38, il40, il42, il43, il44, il45, il46, il47, il48, il49, il50, il51, il52, il57, il59, il60, il63, il64, il75, il80, il95, il96, il97, il98, il99, il100, il120, il122, il123, il127, il128, il135, il167, il175, il225, il249, il250, il255, il256, il360, il370, il384, il600, il700, il740, il900, il940, il1024, il1600, il4800, il64000, il125000, il262143, il1000000000, iI_toInt, iI_add, iI_sub, iI_mul, iI_neg, iI_lt, iI_le, iI_eq, iI_n, iI_in, iI_div, iI_mod, iI_shm, iI_and1, iI_and7, iI_and63, iI_shr3, iI_shr6, rd_I, ob, Option.some.injEq, exists_eq_left', exists_eq_left, true_and, and_true, fqI, fqJ, eq_self, true_or, or_true, bP_0, bP_0i, npP, bP_1i, bP_b, not_true_eq_false, not_false_eq_true, false_implies, true_implies, implies_true, Classical.not_not, and_self, cP, cP', ite_n, ite_T, ite_F, ite_t, ite_f, by_I]
  intro h2 e2
  obtain ⟨f2, r2⟩ := wI (by omega) (by omega) (by omega) e2
  have M2 := M.fr f2
  have e0 : rd h2 92 = rd h 92 := f2.row (by decide)
  simp (disch := omega) only [MSh.o0 M2, MSh.p1 M2, MSh.o1 M2, MSh.l1 M2, MSh.p6 M2, MSh.o2 M2, MSh.l2 M2, MSh.p7 M2, MSh.o3 M2, MSh.l3 M2, MSh.p8 M2, MSh.o4 M2, MSh.l4 M2, MSh.p9 M2, MSh.o5 M2, MSh.l5 M2, MSh.p10 M2, MSh.o6 M2, MSh.l6 M2, MSh.p24 M2, MSh.o7 M2, MSh.l7 M2, MSh.p25 M2, MSh.o8 M2, MSh.l8 M2, MSh.p26 M2, MSh.o9 M2, MSh.l9 M2, MSh.p32 M2, MSh.o10 M2, MSh.l10 M2, MSh.p33 M2, MSh.o11 M2, MSh.l11 M2, MSh.p35 M2, MSh.o12 M2, MSh.l12 M2, MSh.p36 M2, MSh.o13 M2, MSh.l13 M2, MSh.p37 M2, MSh.o14 M2, MSh.l14 M2, MSh.p38 M2, MSh.o15 M2, MSh.l15 M2, MSh.p39 M2, MSh.o16 M2, MSh.l16 M2, MSh.p42 M2, MSh.o17 M2, MSh.l17 M2, MSh.p43 M2, MSh.o18 M2, MSh.l18 M2, MSh.p44 M2, MSh.o19 M2, MSh.l19 M2, MSh.p45 M2, MSh.o20 M2, MSh.l20 M2, MSh.p46 M2, MSh.o21 M2, MSh.l21 M2, MSh.p47 M2, MSh.o22 M2, MSh.l22 M2, MSh.p50 M2, MSh.o23 M2, MSh.l23 M2, MSh.p51 M2, MSh.o24 M2, MSh.l24 M2, MSh.p52 M2, MSh.o25 M2, MSh.l25 M2, fd0, fd1, fd2, fd3, fd4, fd5, fd6, fd7, fd8, fd9, fd10, fd11, fd12, fd13, fd14, fd15, fd16, fd17, fd18, fd19, fd20, fd21, fd22, fd23, fd24, fd25, fd26, fd27, fd28, fd29, fd30, fd31, fd32, fd33, fd34, fd35, fd36, fd37, fd38, fd39, fd40, fd41, fd42, fd43, fd44, fd45, fd46, fd47, fd48, fd49, fd50, fd51, fd52, -Int.reduceToNat, -Int32.reduceToNatClampNeg, il0, il1, il2, il3, il4, il5, il6, il7, il8, il9, il10, il11, il12, il13, il14, il15, il16, il17, il18, il19, il20, il21, il22, il23, il24, il25, il26, il27, il28, il29, il30, il31, il32, il35, il36, il38, il40, il42, il43, il44, il45, il46, il47, il48, il49, il50, il51, il52, il57, il59, il60, il63, il64, il75, il80, il95, il96, il97, il98, il99, il100, il120, il122, il123, il127, il128, il135, il167, il175, il225, il249, il250, il255, il256, il360, il370, il384, il600, il700, il740, il900, il940, il1024, il1600, il4800, il64000, il125000, il262143, il1000000000, iI_toInt, iI_add, iI_sub, iI_mul, iI_neg, iI_lt, iI_le, iI_eq, iI_n, iI_in, iI_div, iI_mod, iI_shm, iI_and1, iI_and7, iI_and63, iI_shr3, iI_shr6, rd_I, ob, Option.some.injEq, exists_eq_left', exists_eq_left, true_and, and_true, fqI, fqJ, eq_self, true_or, or_true, bP_0, bP_0i, npP, bP_1i, bP_b, not_true_eq_false, not_false_eq_true, false_implies, true_implies, implies_true, Classical.not_not, and_self, cP, cP', ite_n, ite_T, ite_F, ite_t, ite_f]
  intro h3 e3
  rw [e0] at e3
  obtain ⟨f3, r3⟩ := wI (i := 2) (by omega) (by omega) (by omega) e3
  refine kk h3 ((f2.mono (by simp) (by simp) (by simp)).trans (f3.mono (by simp) (by simp) (by simp))) ?_ ?_
  · rw [f3.row (by decide), r2]
  · rw [r3, e0]
theorem m_four (M : MSh h) (hl : 0 ≤ rd h 92 2 ∧ rd h 92 2 + 4 ≤ 940) (kk : ∀ h', Fr [92, 93] [] [] h h' → rd h' 93 = put4 (rd h 93) (rd h 92 2) X → rd h' 92 = updT (rd h 92) 2 (rd h 92 2 + 4) → postV h') : wp_X12_four h 92 X postV := by
  refine ⟨5, ?_⟩
  show wl_X12_four_3 postV (4 + 1) h 92 X (iI 24)
  refine m_put1 M (by omega) (by omega) (by omega) fun ha fa ra ta => ?_
  have l1 : rd ha 92 2 = rd h 92 2 + 1 := by rw [ta, updT_s]
  refine m_put1 (m := 3) (k := 16) (M.fr fa) (by omega) (by omega) (by omega) fun hb fb rb tb => ?_
  have l2 : rd hb 92 2 = rd h 92 2 + 1 + 1 := by rw [tb, updT_s, l1]
  refine m_put1 (m := 2) (k := 8) ((M.fr fa).fr fb) (by omega) (by omega) (by omega) fun hc fc rc tc => ?_
  have l3 : rd hc 92 2 = rd h 92 2 + 1 + 1 + 1 := by rw [tc, updT_s, l2]
  refine m_put1 (m := 1) (k := 0) (((M.fr fa).fr fb).fr fc) (by omega) (by omega) (by omega) fun hd fd rd' td => ?_
  show wb_X12_four_3 (wl_X12_four_3 postV 0) hd 92 X (iI (0 + -8)) postV
  unfold wb_X12_four_3
  simp (disch := omega) only [-Int.reduceToNat, -Int32.reduceToNatClampNeg, il0, il1, il2, il3, il4, il5, il6, il7, il8, il9, il10, il11, il12, il13, il14, il15, il16, il17, il18, il19, il20, il21, il22, il23, il24, il25, il26, il27, il28, il29, il30, il31, il32, il35, il36, il38, il40, il42, il43, il44, il45, il46, il47, il48, il49, il50, il51, il52, il57, il59, il60, il63, il64, il75, il80, il95, il96, il97, il98, il99, il100, il120, il122, il123, il127, il128, il135, il167, il175, il225, il249, il250, il255, il256, il360, il370, il384, il600, il700, il740, il900, il940, il1024, il1600, il4800, il64000, il125000, il262143, il1000000000, iI_toInt, iI_add, iI_sub, iI_mul, iI_neg, iI_lt, iI_le, iI_eq, iI_n, iI_in, iI_div, iI_mod, iI_shm, iI_and1, iI_and7, iI_and63, iI_shr3, iI_shr6, rd_I, ob, Option.some.injEq, exists_eq_left', exists_eq_left, true_and, and_true, fqI, fqJ, eq_self, true_or, or_true, bP_0, bP_0i, npP, bP_1i, bP_b, not_true_eq_false, not_false_eq_true, false_implies, true_implies, implies_true, Classical.not_not, and_self, cP, cP', ite_n, ite_T, ite_F, ite_t, ite_f]
  refine kk hd (fa.trans (fb.trans (fc.trans fd))) ?_ ?_
  · rw [rd', rc, rb, ra, l1, l2, l3]
    rfl
  · rw [td, l3, tc, upd2_2, tb, upd2_2, ta, upd2_2]
    congr 1
    omega
theorem cX_feed {A B C D E : Int32} (S : CSh h) (hl : 0 ≤ rd h 0 1 ∧ rd h 0 1 ≤ 940) (k1 : ∀ h', rd h 0 1 ≤ 920 → Fr [0, 1] [] [] h h' → rd h' 1 = feedT (rd h 1) (rd h 0 1) A B C D E → rd h' 0 = updT (rd h 0) 1 (rd h 0 1 + 20) → post h' (iI (rd h 0 1 + 20))) (k0 : ¬ rd h 0 1 ≤ 920 → post h (iI (-1))) : wp_X11_feed h 0 A B C D E post := by
  unfold wp_X11_feed
  simp (disch := omega) only [CSh.o0 S, CSh.o1 S, CSh.o2 S, CSh.o3 S, CSh.o26 S, CSh.o27 S, CSh.o29 S, CSh.o30 S, CSh.o31 S, CSh.o56 S, CSh.o57 S, CSh.o58 S, CSh.o62 S, CSh.o66 S, CSh.o70 S, CSh.o74 S, CSh.o75 S, CSh.o77 S, CSh.o79 S, CSh.o80 S, CSh.o81 S, CSh.o82 S, CSh.o83 S, CSh.o84 S, CSh.o85 S, CSh.o86 S, CSh.o87 S, CSh.o88 S, CSh.o53 S, CSh.o54 S, CSh.o55 S, CSh.o59 S, CSh.o60 S, CSh.o61 S, CSh.o63 S, CSh.o64 S, CSh.o65 S, CSh.o67 S, CSh.o68 S, CSh.o69 S, CSh.o71 S, CSh.o72 S, CSh.o73 S, CSh.o89 S, CSh.o90 S, CSh.o91 S, CSh.l1 S, CSh.l3 S, CSh.l27 S, CSh.l29 S, CSh.l30 S, CSh.l56 S, CSh.l57 S, CSh.l58 S, CSh.l75 S, CSh.l77 S, CSh.l79 S, CSh.l81 S, CSh.l82 S, CSh.l83 S, CSh.l84 S, CSh.l85 S, CSh.l86 S, CSh.l87 S, CSh.l88 S, CSh.l54 S, CSh.l55 S, CSh.l60 S, CSh.l61 S, CSh.l64 S, CSh.l65 S, CSh.l68 S, CSh.l69 S, CSh.l72 S, CSh.l73 S, CSh.l90 S, CSh.l91 S, CSh.p0_0 S, CSh.p0_3 S, CSh.p0_4 S, CSh.p0_5 S, CSh.p0_6 S, CSh.p0_7 S, CSh.p0_8 S, CSh.p0_9 S, CSh.p0_10 S, CSh.p0_14 S, CSh.p2_0 S, CSh.p26_0 S, CSh.p26_13 S, CSh.p26_14 S, CSh.p31_1 S, CSh.p31_3 S, CSh.p31_4 S, CSh.p62_0 S, CSh.p66_0 S, CSh.p70_0 S, CSh.p74_0 S, CSh.p74_1 S, CSh.p74_6 S, CSh.p74_7 S, CSh.p74_10 S, CSh.p80_1 S, CSh.p80_2 S, CSh.p80_3 S, CSh.p80_4 S, CSh.p80_5 S, CSh.p80_6 S, CSh.p80_7 S, CSh.p80_8 S, CSh.p53_1 S, CSh.p53_2 S, CSh.p59_1 S, CSh.p59_2 S, CSh.p63_1 S, CSh.p63_2 S, CSh.p67_1 S, CSh.p67_2 S, CSh.p71_1 S, CSh.p71_2 S, CSh.p89_1 S, CSh.p89_2 S, fd0, fd1, fd2, fd3, fd4, fd5, fd6, fd7, fd8, fd9, fd10, fd11, fd12, fd13, fd14, fd15, fd16, fd17, fd18, fd19, fd20, fd21, fd22, fd23, fd24, fd25, fd26, fd27, fd28, fd29, fd30, fd31, fd32, fd33, fd34, fd35, fd36, fd37, fd38, fd39, fd40, fd41, fd42, fd43, fd44, fd45, fd46, fd47, fd48, fd49, fd50, fd51, fd52, -Int.reduceToNat, -Int32.reduceToNatClampNeg, il0, il1, il2, il3, il4, il5, il6, il7, il8, il9, il10, il11, il12, il13, il14, il15, il16, il17, il18, il19, il20, il21, il22, il23, il24, il25, il26, il27, il28, il29, il30, il31, il32, il35, il36, il38, il40, il42, il43, il44, il45, il46, il47, il48, il49, il50, il51, il52, il57, il59, il60, il63, il64, il75, il80, il95, il96, il97, il98, il99, il100, il120, il122, il123, il127, il128, il135, il167, il175, il225, il249, il250, il255, il256, il360, il370, il384, il600, il700, il740, il900, il940, il1024, il1600, il4800, il64000, il125000, il262143, il1000000000, iI_toInt, iI_add, iI_sub, iI_mul, iI_neg, iI_lt, iI_le, iI_eq, iI_n, iI_in, iI_div, iI_mod, iI_shm, iI_and1, iI_and7, iI_and63, iI_shr3, iI_shr6, rd_I, ob, Option.some.injEq, exists_eq_left', exists_eq_left, true_and, and_true, fqI, fqJ, eq_self, true_or, or_true, bP_0, bP_0i, npP, bP_1i, bP_b, not_true_eq_false, not_false_eq_true, false_implies, true_implies, implies_true, Classical.not_not, and_self, cP, cP', ite_n]
  by_cases c : rd h 0 1 ≤ 920
  case neg => rw [ite_f (by omega)]; exact k0 c
  rw [ite_t (by omega)]
  refine c_putBytes S (by omega) fun ha fa ra ta => ?_
  have Sa := S.gr fa.gr
  have la : rd ha 0 1 = rd h 0 1 + 4 := by rw [ta, updT_s]
  refine ⟨Sa.o0, c_putBytes Sa (by omega) fun hb fb rb tb => ?_⟩
  have Sb := Sa.gr fb.gr
  have lb : rd hb 0 1 = rd h 0 1 + 8 := by rw [tb, updT_s, la]; omega
  refine ⟨Sb.o0, c_putBytes Sb (by omega) fun hc fc rc tc => ?_⟩
  have Sc := Sb.gr fc.gr
  have lc : rd hc 0 1 = rd h 0 1 + 12 := by rw [tc, updT_s, lb]; omega
  refine ⟨Sc.o0, c_putBytes Sc (by omega) fun hd fd rd' td => ?_⟩
  have Sd := Sc.gr fd.gr
  have ld : rd hd 0 1 = rd h 0 1 + 16 := by rw [td, updT_s, lc]; omega
  refine ⟨Sd.o0, c_putBytes Sd (by omega) fun he fe re te => ?_⟩
  have Se := Sd.gr fe.gr
  have le : rd he 0 1 = rd h 0 1 + 20 := by rw [te, updT_s, ld]; omega
  refine ⟨Se.o0, ?_⟩
  rw [le]
  refine k1 he c (fa.trans (fb.trans (fc.trans (fd.trans fe)))) ?_ ?_
  · rw [re, rd', rc, rb, ra, la, lb, lc, ld]
    rfl
  · rw [te, ld, td, upd1_1, tc, upd1_1, tb, upd1_1, ta, upd1_1]
    congr 1
    omega
theorem m_thr0 (M : MSh h) (Z : Z24 h) {v : Int32} (e1 : h1 = hI h 92 0 v) : MSh h1 ∧ Qt h h1 ∧ Fr [92] [] [] h h1 ∧ rd h1 92 = updT (rd h 92) 0 v.toInt ∧ aI h1 92 0 = v := by
  have f1 : Fr [92] [] [] h h1 := e1 ▸ fr_hI
  have e' : h1 = hI h 92 (0 : Int).toNat (iI v.toInt) := by rw [iI_of]; exact e1
  have r1 := (wI (i := 0) (by omega) (Int32.le_toInt v) (Int32.toInt_lt v) e').2
  refine ⟨M.fr f1, ⟨f1.mono (by simp) (by simp) (by simp), fun j hj => ?_, ?_⟩, f1, r1, ?_⟩
  · rw [r1, updT_n]
    intro c
    rw [c] at hj
    exact absurd hj (by decide)
  · unfold Z24 at Z ⊢
    rw [f1.row (by decide), f1.row (by decide)]
    exact Z
  · rw [e1]
    show va_up (aI h) 92 (upd (aI h 92) 0 v) 92 0 = v
    rw [up_s]
    exact if_pos rfl
theorem mX_feed {A B C D E : Int32} (M : MSh h) (Z : Z24 h) (hl : 0 ≤ rd h 92 2 ∧ rd h 92 2 ≤ 940) (k1 : ∀ h', rd h 92 2 ≤ 920 → Fr [92, 93] [] [] h h' → rd h' 93 = feedT (rd h 93) (rd h 92 2) A B C D E → rd h' 92 2 = rd h 92 2 + 20 → (∀ j, j ∈ QW → j ≠ 2 → rd h' 92 j = rd h 92 j) → post h' (iI (rd h 92 2 + 20))) (k0 : ∀ h', ¬ rd h 92 2 ≤ 920 → Qt h h' → post h' (iI (-1))) : wp_X12_feed h 92 A B C D E post := by
  unfold wp_X12_feed
  refine ⟨M.o0, fun h1 e1 => ?_⟩
  obtain ⟨M1, q1, f1, r1, -⟩ := m_thr0 M Z e1
  have l0 : rd h1 92 2 = rd h 92 2 := q1.2.1 2 (by decide)
  simp (disch := omega) only [MSh.o0 M1, MSh.p1 M1, MSh.o1 M1, MSh.l1 M1, MSh.p6 M1, MSh.o2 M1, MSh.l2 M1, MSh.p7 M1, MSh.o3 M1, MSh.l3 M1, MSh.p8 M1, MSh.o4 M1, MSh.l4 M1, MSh.p9 M1, MSh.o5 M1, MSh.l5 M1, MSh.p10 M1, MSh.o6 M1, MSh.l6 M1, MSh.p24 M1, MSh.o7 M1, MSh.l7 M1, MSh.p25 M1, MSh.o8 M1, MSh.l8 M1, MSh.p26 M1, MSh.o9 M1, MSh.l9 M1, MSh.p32 M1, MSh.o10 M1, MSh.l10 M1, MSh.p33 M1, MSh.o11 M1, MSh.l11 M1, MSh.p35 M1, MSh.o12 M1, MSh.l12 M1, MSh.p36 M1, MSh.o13 M1, MSh.l13 M1, MSh.p37 M1, MSh.o14 M1, MSh.l14 M1, MSh.p38 M1, MSh.o15 M1, MSh.l15 M1, MSh.p39 M1, MSh.o16 M1, MSh.l16 M1, MSh.p42 M1, MSh.o17 M1, MSh.l17 M1, MSh.p43 M1, MSh.o18 M1, MSh.l18 M1, MSh.p44 M1, MSh.o19 M1, MSh.l19 M1, MSh.p45 M1, MSh.o20 M1, MSh.l20 M1, MSh.p46 M1, MSh.o21 M1, MSh.l21 M1, MSh.p47 M1, MSh.o22 M1, MSh.l22 M1, MSh.p50 M1, MSh.o23 M1, MSh.l23 M1, MSh.p51 M1, MSh.o24 M1, MSh.l24 M1, MSh.p52 M1, MSh.o25 M1, MSh.l25 M1, fd0, fd1, fd2, fd3, fd4, fd5, fd6, fd7, fd8, fd9, fd10, fd11, fd12, fd13, fd14, fd15, fd16, fd17, fd18, fd19, fd20, fd21, fd22, fd23, fd24, fd25, fd26, fd27, fd28, fd29, fd30, fd31, fd32, fd33, fd34, fd35, fd36, fd37, fd38, fd39, fd40, fd41, fd42, fd43, fd44, fd45, fd46, fd47, fd48, fd49, fd50, fd51, fd52, -Int.reduceToNat, -Int32.reduceToNatClampNeg, il0, il1, il2, il3, il4, il5, il6, il7, il8, il9, il10, il11, il12, il13, il14, il15, il16, il17, il18, il19, il20, il21, il22, il23, il24, il25, il26, il27, il28, il29, il30, il31, il32, il35, il36, il38, il40, il42, il43, il44, il45, il46, il47, il48, il49, il50, il51, il52, il57, il59, il60, il63, il64, il75, il80, il95, il96, il97, il98, il99, il100, il120, il122, il123, il127, il128, il135, il167, il175, il225, il249, il250, il255, il256, il360, il370, il384, il600, il700, il740, il900, il940, il1024, il1600, il4800, il64000, il125000, il262143, il1000000000, iI_toInt, iI_add, iI_sub, iI_mul, iI_neg, iI_lt, iI_le, iI_eq, iI_n, iI_in, iI_div, iI_mod, iI_shm, iI_and1, iI_and7, iI_and63, iI_shr3, iI_shr6, rd_I, ob, Option.some.injEq, exists_eq_left', exists_eq_left, true_and, and_true, fqI, fqJ, eq_self, true_or, or_true, bP_0, bP_0i, npP, bP_1i, bP_b, not_true_eq_false, not_false_eq_true, false_implies, true_implies, implies_true, Classical.not_not, and_self, cP, cP', ite_n, l0]
  by_cases c : rd h 92 2 ≤ 920
  case neg => rw [ite_f (by omega)]; exact k0 h1 c q1
  rw [ite_t (by omega)]
  refine m_four M1 (by omega) fun ha fa ra ta => ?_
  have Ma := M1.fr fa
  have la : rd ha 92 2 = rd h 92 2 + 4 := by rw [ta, updT_s, l0]
  refine ⟨Ma.o0, m_four Ma (by omega) fun hb fb rb tb => ?_⟩
  have Mb := Ma.fr fb
  have lb : rd hb 92 2 = rd h 92 2 + 8 := by rw [tb, updT_s, la]; omega
  refine ⟨Mb.o0, m_four Mb (by omega) fun hc fc rc tc => ?_⟩
  have Mc := Mb.fr fc
  have lc : rd hc 92 2 = rd h 92 2 + 12 := by rw [tc, updT_s, lb]; omega
  refine ⟨Mc.o0, m_four Mc (by omega) fun hd fd rd' td => ?_⟩
  have Md := Mc.fr fd
  have ld : rd hd 92 2 = rd h 92 2 + 16 := by rw [td, updT_s, lc]; omega
  refine ⟨Md.o0, m_four Md (by omega) fun he fe re te => ?_⟩
  have Me := Md.fr fe
  have le : rd he 92 2 = rd h 92 2 + 20 := by rw [te, updT_s, ld]; omega
  refine ⟨Me.o0, ?_⟩
  rw [le]
  refine k1 he c ((f1.mono (by simp) (by simp) (by simp)).trans (fa.trans (fb.trans (fc.trans (fd.trans fe))))) ?_ le (fun j hj h2 => ?_)
  · rw [re, rd', rc, rb, ra, la, lb, lc, ld, l0, f1.row (by decide)]
    rfl
  · rw [te, updT_n h2, td, updT_n h2, tc, updT_n h2, tb, updT_n h2, ta, updT_n h2, q1.2.1 j hj]
theorem cX_end (S : CSh h) (hl : 0 ≤ rd h 0 1 ∧ rd h 0 1 ≤ 940) (ha : -2147483648 ≤ a) (ha' : a < 2147483648) (k1 : ∀ h', (0 ≤ a ∧ a ≤ rd h 0 1) → Fr [0] [] [] h h' → rd h' 0 = updT (rd h 0) 1 a → post h' (iI 1)) (k0 : ¬ (0 ≤ a ∧ a ≤ rd h 0 1) → post h (iI 0)) : wp_X11_end h 0 (iI a) post := by
  unfold wp_X11_end
  simp (disch := omega) only [CSh.o0 S, CSh.o1 S, CSh.o2 S, CSh.o3 S, CSh.o26 S, CSh.o27 S, CSh.o29 S, CSh.o30 S, CSh.o31 S, CSh.o56 S, CSh.o57 S, CSh.o58 S, CSh.o62 S, CSh.o66 S, CSh.o70 S, CSh.o74 S, CSh.o75 S, CSh.o77 S, CSh.o79 S, CSh.o80 S, CSh.o81 S, CSh.o82 S, CSh.o83 S, CSh.o84 S, CSh.o85 S, CSh.o86 S, CSh.o87 S, CSh.o88 S, CSh.o53 S, CSh.o54 S, CSh.o55 S, CSh.o59 S, CSh.o60 S, CSh.o61 S, CSh.o63 S, CSh.o64 S, CSh.o65 S, CSh.o67 S, CSh.o68 S, CSh.o69 S, CSh.o71 S, CSh.o72 S, CSh.o73 S, CSh.o89 S, CSh.o90 S, CSh.o91 S, CSh.l1 S, CSh.l3 S, CSh.l27 S, CSh.l29 S, CSh.l30 S, CSh.l56 S, CSh.l57 S, CSh.l58 S, CSh.l75 S, CSh.l77 S, CSh.l79 S, CSh.l81 S, CSh.l82 S, CSh.l83 S, CSh.l84 S, CSh.l85 S, CSh.l86 S, CSh.l87 S, CSh.l88 S, CSh.l54 S, CSh.l55 S, CSh.l60 S, CSh.l61 S, CSh.l64 S, CSh.l65 S, CSh.l68 S, CSh.l69 S, CSh.l72 S, CSh.l73 S, CSh.l90 S, CSh.l91 S, CSh.p0_0 S, CSh.p0_3 S, CSh.p0_4 S, CSh.p0_5 S, CSh.p0_6 S, CSh.p0_7 S, CSh.p0_8 S, CSh.p0_9 S, CSh.p0_10 S, CSh.p0_14 S, CSh.p2_0 S, CSh.p26_0 S, CSh.p26_13 S, CSh.p26_14 S, CSh.p31_1 S, CSh.p31_3 S, CSh.p31_4 S, CSh.p62_0 S, CSh.p66_0 S, CSh.p70_0 S, CSh.p74_0 S, CSh.p74_1 S, CSh.p74_6 S, CSh.p74_7 S, CSh.p74_10 S, CSh.p80_1 S, CSh.p80_2 S, CSh.p80_3 S, CSh.p80_4 S, CSh.p80_5 S, CSh.p80_6 S, CSh.p80_7 S, CSh.p80_8 S, CSh.p53_1 S, CSh.p53_2 S, CSh.p59_1 S, CSh.p59_2 S, CSh.p63_1 S, CSh.p63_2 S, CSh.p67_1 S, CSh.p67_2 S, CSh.p71_1 S, CSh.p71_2 S, CSh.p89_1 S, CSh.p89_2 S, fd0, fd1, fd2, fd3, fd4, fd5, fd6, fd7, fd8, fd9, fd10, fd11, fd12, fd13, fd14, fd15, fd16, fd17, fd18, fd19, fd20, fd21, fd22, fd23, fd24, fd25, fd26, fd27, fd28, fd29, fd30, fd31, fd32, fd33, fd34, fd35, fd36, fd37, fd38, fd39, fd40, fd41, fd42, fd43, fd44, fd45, fd46, fd47, fd48, fd49, fd50, fd51, fd52, -Int.reduceToNat, -Int32.reduceToNatClampNeg, il0, il1, il2, il3, il4, il5, il6, il7, il8, il9, il10, il11, il12, il13, il14, il15, il16, il17, il18, il19, il20, il21, il22, il23, il24, il25, il26, il27, il28, il29, il30, il31, il32, il35, il36, il38, il40, il42, il43, il44, il45, il46, il47, il48, il49, il50, il51, il52, il57, il59, il60, il63, il64, il75, il80, il95, il96, il97, il98, il99, il100, il120, il122, il123, il127, il128, il135, il167, il175, il225, il249, il250, il255, il256, il360, il370, il384, il600, il700, il740, il900, il940, il1024, il1600, il4800, il64000, il125000, il262143, il1000000000, iI_toInt, iI_add, iI_sub, iI_mul, iI_neg, iI_lt, iI_le, iI_eq, iI_n, iI_in, iI_div, iI_mod, iI_shm, iI_and1, iI_and7, iI_and63, iI_shr3, iI_shr6, rd_I, ob, Option.some.injEq, exists_eq_left', exists_eq_left, true_and, and_true, fqI, fqJ, eq_self, true_or, or_true, bP_0, bP_0i, npP, bP_1i, bP_b, not_true_eq_false, not_false_eq_true, false_implies, true_implies, implies_true, Classical.not_not, and_self, cP, cP', ite_n]
  by_cases c1 : a < 0
  · rw [ite_t c1]; exact k0 (by omega)
  rw [ite_f c1]
  by_cases c2 : a ≤ rd h 0 1
  · rw [ite_t c2]
    intro h1 e1
    obtain ⟨f1, r1⟩ := wI (i := 1) (by omega) (by omega) (by omega) e1
    exact k1 h1 (by omega) f1 r1
  · rw [ite_f c2]; exact k0 (by omega)
theorem mX_end (M : MSh h) (Z : Z24 h) (hl : 0 ≤ rd h 92 2 ∧ rd h 92 2 ≤ 940) (ha : -2147483648 ≤ a) (ha' : a < 2147483648) (k1 : ∀ h', (0 ≤ a ∧ a ≤ rd h 92 2) → Fr [92] [] [] h h' → rd h' 92 2 = a → (∀ j, j ∈ QW → j ≠ 2 → rd h' 92 j = rd h 92 j) → post h' (iI 1)) (k0 : ∀ h', ¬ (0 ≤ a ∧ a ≤ rd h 92 2) → Qt h h' → post h' (iI 0)) : wp_X12_end h 92 (iI a) post := by
  unfold wp_X12_end
  refine ⟨M.o0, fun h1 e1 => ?_⟩
  obtain ⟨M1, q1, f1, r1, -⟩ := m_thr0 M Z e1
  have l0 : rd h1 92 2 = rd h 92 2 := q1.2.1 2 (by decide)
  simp (disch := omega) only [MSh.o0 M1, MSh.p1 M1, MSh.o1 M1, MSh.l1 M1, MSh.p6 M1, MSh.o2 M1, MSh.l2 M1, MSh.p7 M1, MSh.o3 M1, MSh.l3 M1, MSh.p8 M1, MSh.o4 M1, MSh.l4 M1, MSh.p9 M1, MSh.o5 M1, MSh.l5 M1, MSh.p10 M1, MSh.o6 M1, MSh.l6 M1, MSh.p24 M1, MSh.o7 M1, MSh.l7 M1, MSh.p25 M1, MSh.o8 M1, MSh.l8 M1, MSh.p26 M1, MSh.o9 M1, MSh.l9 M1, MSh.p32 M1, MSh.o10 M1, MSh.l10 M1, MSh.p33 M1, MSh.o11 M1, MSh.l11 M1, MSh.p35 M1, MSh.o12 M1, MSh.l12 M1, MSh.p36 M1, MSh.o13 M1, MSh.l13 M1, MSh.p37 M1, MSh.o14 M1, MSh.l14 M1, MSh.p38 M1, MSh.o15 M1, MSh.l15 M1, MSh.p39 M1, MSh.o16 M1, MSh.l16 M1, MSh.p42 M1, MSh.o17 M1, MSh.l17 M1, MSh.p43 M1, MSh.o18 M1, MSh.l18 M1, MSh.p44 M1, MSh.o19 M1, MSh.l19 M1, MSh.p45 M1, MSh.o20 M1, MSh.l20 M1, MSh.p46 M1, MSh.o21 M1, MSh.l21 M1, MSh.p47 M1, MSh.o22 M1, MSh.l22 M1, MSh.p50 M1, MSh.o23 M1, MSh.l23 M1, MSh.p51 M1, MSh.o24 M1, MSh.l24 M1, MSh.p52 M1, MSh.o25 M1, MSh.l25 M1, fd0, fd1, fd2, fd3, fd4, fd5, fd6, fd7, fd8, fd9, fd10, fd11, fd12, fd13, fd14, fd15, fd16, fd17, fd18, fd19, fd20, fd21, fd22, fd23, fd24, fd25, fd26, fd27, fd28, fd29, fd30, fd31, fd32, fd33, fd34, fd35, fd36, fd37, fd38, fd39, fd40, fd41, fd42, fd43, fd44, fd45, fd46, fd47, fd48, fd49, fd50, fd51, fd52, -Int.reduceToNat, -Int32.reduceToNatClampNeg, il0, il1, il2, il3, il4, il5, il6, il7, il8, il9, il10, il11, il12, il13, il14, il15, il16, il17, il18, il19, il20, il21, il22, il23, il24, il25, il26, il27, il28, il29, il30, il31, il32, il35, il36, il38, il40, il42, il43, il44, il45, il46, il47, il48, il49, il50, il51, il52, il57, il59, il60, il63, il64, il75, il80, il95, il96, il97, il98, il99, il100, il120, il122, il123, il127, il128, il135, il167, il175, il225, il249, il250, il255, il256, il360, il370, il384, il600, il700, il740, il900, il940, il1024, il1600, il4800, il64000, il125000, il262143, il1000000000, iI_toInt, iI_add, iI_sub, iI_mul, iI_neg, iI_lt, iI_le, iI_eq, iI_n, iI_in, iI_div, iI_mod, iI_shm, iI_and1, iI_and7, iI_and63, iI_shr3, iI_shr6, rd_I, ob, Option.some.injEq, exists_eq_left', exists_eq_left, true_and, and_true, fqI, fqJ, eq_self, true_or, or_true, bP_0, bP_0i, npP, bP_1i, bP_b, not_true_eq_false, not_false_eq_true, false_implies, true_implies, implies_true, Classical.not_not, and_self, cP, cP', ite_n, l0]
  by_cases c1 : a < 0
  · rw [ite_t c1]; exact k0 h1 (by omega) q1
  rw [ite_f c1]
  by_cases c2 : a ≤ rd h 92 2
  · rw [ite_t c2]
    intro h2 e2
    obtain ⟨f2, r2⟩ := wI (i := 2) (by omega) (by omega) (by omega) e2
    exact k1 h2 (by omega) (f1.trans f2) (by rw [r2, updT_s]) (fun j hj h2' => by rw [r2, updT_n h2', q1.2.1 j hj])
  · rw [ite_f c2]; exact k0 h1 (by omega) q1
/-- only the tape has changed -/
theorem Inv.tape (I : Inv h i la fr qa ac) (f : Fr [0, 1, 92, 93] [] [] h h2) (e0 : ∀ j, j ≠ 1 → rd h2 0 j = rd h 0 j) (eq : ∀ j, j ∈ QW → j ≠ 2 → rd h2 92 j = rd h 92 j) (iT : IvT h2) : Inv h2 (i + 1) la fr qa ac := by
  have hl := I.hl
  have g := f.gr
  have lt := fun (a : Nat) (ha : a ≤ 118) => I.lt ha
  have I0 := I
  obtain ⟨c1, c2, c3, c4, c5, c6, c7, c8, c9, c10, c11, c12, c13, c14, c15, c16, c17, c18⟩ := I
  have r94 : rd h2 94 = rd h 94 := f.row (by decide)
  have j97 : aJ h2 97 = aJ h 97 := f.2.2.2.2.2.1 97 (by decide)
  refine I0.step g hl ((g.dyn (lt 2 (by omega)) (by decide)).trans c6) ?_ (by rw [r94]; exact c9) ?_ iT (c12.gr (e0 _ (by omega)) (eq _ (by decide) (by decide))) (c13.gr (e0 _ (by omega)) (e0 _ (by omega)) (e0 _ (by omega)) (eq _ (by decide) (by decide)) ?_ ?_ ?_ ?_) (c14.gr g c1 (by decide) (by decide) ?_ (eq _ (by decide) (by decide)) ?_ ?_) (c15.gr (eq _ (by decide) (by decide)) (eq _ (by decide) (by decide)) ?_ ?_ ?_ ?_) (c16.gr g c1 (by decide) (by decide) ?_ ?_ ?_ ?_ ⟨Or.inl rfl, Or.inl rfl⟩) (c17.gr ?_ ?_ ?_) (c18.same c14 g f.1 f.2.1)
  · rw [r94, j97]
    exact c8.gr g (by omega) (Or.inl rfl) (by decide) (by decide) (fun j hj => by simp; omega) (fun j hj => by simp) (by decide) (by decide) (by decide) (by decide) (by decide)
  · unfold Z24 at c10 ⊢
    rw [f.row (by decide), f.row (by decide)]
    exact c10
  all_goals first | (rw [f.row (by decide)]; done) | exact f.row (by decide) | exact f.2.2.2.2.2.1 _ (by decide) | skip
  · obtain ⟨q1, q2, q3, q4, q5, q6, q7, q8, q9, q10, q11⟩ := c14
    simp
    omega
  · refine ⟨fun a ha => ?_, fun a ha => absurd ha List.not_mem_nil⟩
    simp at ha
    omega
end TAPE
