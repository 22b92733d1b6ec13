/-! IMAGE and RESTORE -/
section IMAGE
variable {h h1 h2 h' : AH} {i la fr qa ac sc : Nat} {K : AH → Prop} {postV : AH → Prop} {post : AH → Int32 → Prop} {a b c d r x y n k : Int} {s : Int → Int}
/-- a state that is told alike -/
theorem GA.cg {s' : Int → Int} (g : GA s) (e : ∀ i, 0 ≤ i → i < 370 → s' i = s i) : GA s' := by
  obtain ⟨hGS, hWL, hSq, ⟨hP1, hP2⟩, hFit, hVT⟩ := id g
  have bd := g.bd
  have e225 : ∀ i, 0 ≤ i → i < 225 → s' i = s i := fun i i1 i2 => e i i1 (by omega)
  have e2 := e 2 (by omega) (by omega)
  have hB : SBd s' := fun j j1 j2 => by rw [e j j1 j2]; exact hGS.1.1 j j1 j2
  obtain ⟨g1, g2, g3, g4⟩ := GL.cg e225 hB ⟨hGS, hWL, hSq, hFit⟩
  have et : tS s' = tS s := funext fun i => by
    unfold tS
    by_cases c : 0 ≤ i ∧ i < 24
    · rw [if_pos c, if_pos c, e _ (by omega) (by omega)]
    · rw [if_neg c, if_neg c]
  refine ⟨g1, g2, g3, ⟨by rw [e 249 (by omega) (by omega)]; exact hP1, fun i i1 i2 => ?_⟩, g4, by rw [et]; exact VT.cg (e 0 (by omega) (by omega)) (e 1 (by omega) (by omega)) e2 (zC_c e225) hVT⟩
  rw [e 249 (by omega) (by omega)] at i2
  rw [e (250 + 2 * i) (by omega) (by omega), e (250 + 2 * i + 1) (by omega) (by omega), e2]
  exact hP2 i i1 i2
theorem Scn.cg {sc la : Nat} {s' : Int → Int} {nm nm' : Nat → Int64} (S : Scn h sc la s nm) (g : GA s) (e : ∀ i, 0 ≤ i → i < 370 → s' i = s i) (en : ∀ j : Nat, j < 8 → nm' j = nm j) : Scn h sc la s' nm' := by
  have bd := g.bd
  have e225 : ∀ i, 0 ≤ i → i < 225 → s' i = s i := fun i i1 i2 => e i i1 (by omega)
  have e2 := e 2 (by omega) (by omega)
  have et : tS s' = tS s := funext fun i => by
    unfold tS
    by_cases c : 0 ≤ i ∧ i < 24
    · rw [if_pos c, if_pos c, e _ (by omega) (by omega)]
    · rw [if_neg c, if_neg c]
  obtain ⟨K1, H, L, N, T, P1, P2⟩ := S
  refine ⟨K1, H, LR.cg g.1.1 e225 L, fun r r1 r2 => ?_, TR.cg e2 et (zC_c e225) T, by rw [e 249 (by omega) (by omega)]; exact P1, fun i i1 i2 => ?_⟩
  · rw [e2] at r2
    rw [en _ (by omega)]
    exact N r r1 r2
  · rw [e 249 (by omega) (by omega)] at i2
    rw [e (250 + 2 * i) (by omega) (by omega), e (250 + 2 * i + 1) (by omega) (by omega)]
    exact P2 i i1 i2
theorem m_image51 (M : MSh h) (hk : 0 ≤ k ∧ k ≤ 1) (kk : ∀ h', Fr [117] [116] [] h h' → (∀ j : Nat, j < 8 → aJ h' 116 (8 * k.toNat + j) = aJ h 97 j) → (∀ j : Nat, ¬ (8 * k.toNat ≤ j ∧ j < 8 * k.toNat + 8) → aJ h' 116 j = aJ h 116 j) → rd h' 117 = updT (rd h 117) k 1 → post h' (iI 1)) : ∃ n, wl_X12_image_51 post n h 92 (iI k) (iI 0) := by
  refine lf_for (W := fun n (g : AH) j => wl_X12_image_51 post n g 92 (iI k) (iI j)) (lo := 0) (hi := 8) (fun i g => Fr [] [116] [] h g ∧ (∀ j : Nat, (j : Int) < i → aJ g 116 (8 * k.toNat + j) = aJ h 97 j) ∧ (∀ j : Nat, ¬ (8 * k.toNat ≤ j ∧ j < 8 * k.toNat + 8) → aJ g 116 j = aJ h 116 j)) (by omega) ?_ ?_ h ⟨(Fr.refl h).mono (by simp) (by simp) (by simp), fun j j1 => by omega, fun _ _ => rfl⟩
  · intro m g i i1 i2 hg kw
    obtain ⟨f, t1, t2⟩ := hg
    have Mg := M.fr f
    show wb_X12_image_51 (wl_X12_image_51 post m) g 92 (iI k) (iI i) post
    unfold wb_X12_image_51
    simp (disch := omega) only [MSh.o0 Mg, MSh.p1 Mg, MSh.o1 Mg, MSh.l1 Mg, MSh.p6 Mg, MSh.o2 Mg, MSh.l2 Mg, MSh.p7 Mg, MSh.o3 Mg, MSh.l3 Mg, MSh.p8 Mg, MSh.o4 Mg, MSh.l4 Mg, MSh.p9 Mg, MSh.o5 Mg, MSh.l5 Mg, MSh.p10 Mg, MSh.o6 Mg, MSh.l6 Mg, MSh.p24 Mg, MSh.o7 Mg, MSh.l7 Mg, MSh.p25 Mg, MSh.o8 Mg, MSh.l8 Mg, MSh.p26 Mg, MSh.o9 Mg, MSh.l9 Mg, MSh.p32 Mg, MSh.o10 Mg, MSh.l10 Mg, MSh.p33 Mg, MSh.o11 Mg, MSh.l11 Mg, MSh.p35 Mg, MSh.o12 Mg, MSh.l12 Mg, MSh.p36 Mg, MSh.o13 Mg, MSh.l13 Mg, MSh.p37 Mg, MSh.o14 Mg, MSh.l14 Mg, MSh.p38 Mg, MSh.o15 Mg, MSh.l15 Mg, MSh.p39 Mg, MSh.o16 Mg, MSh.l16 Mg, MSh.p42 Mg, MSh.o17 Mg, MSh.l17 Mg, MSh.p43 Mg, MSh.o18 Mg, MSh.l18 Mg, MSh.p44 Mg, MSh.o19 Mg, MSh.l19 Mg, MSh.p45 Mg, MSh.o20 Mg, MSh.l20 Mg, MSh.p46 Mg, MSh.o21 Mg, MSh.l21 Mg, MSh.p47 Mg, MSh.o22 Mg, MSh.l22 Mg, MSh.p50 Mg, MSh.o23 Mg, MSh.l23 Mg, MSh.p51 Mg, MSh.o24 Mg, MSh.l24 Mg, MSh.p52 Mg, MSh.o25 Mg, MSh.l25 Mg, -Int.reduceToNat, -Int32.reduceToNatClampNeg, il0, il1, il2, il3, il4, il5, il6, il7, il8, il9, il10, il11, il12, il13, il14, il15, il16, il17, il18, il19, il20, il21, il22, il23, il24, il25, il26, il27, il28, il29, il30, il31, il32, il35, il36, il38, il40, il42, il43, il44, il45, il46, il47, il48, il49, il50, il51, il52, il57, il59, il60, il63, il64, il75, il80, il95, il96, il97, il98, il99, il100, il120, il122, il123, il127, il128, il135, il167, il175, il225, il249, il250, il255, il256, il360, il370, il384, il600, il700, il740, il900, il940, il1024, il1600, il4800, il64000, il125000, il262143, il1000000000, iI_toInt, iI_add, iI_sub, iI_mul, iI_neg, iI_lt, iI_le, iI_eq, iI_n, iI_in, iI_div, iI_mod, iI_shm, iI_and1, iI_and7, iI_and63, iI_shr3, iI_shr6, rd_I, ob, Option.some.injEq, exists_eq_left', exists_eq_left, true_and, and_true, fqI, fqJ, eq_self, true_or, or_true, bP_0, bP_0i, npP, bP_1i, bP_b, not_true_eq_false, not_false_eq_true, false_implies, true_implies, implies_true, Classical.not_not, and_self, cP, cP', ite_n, ite_T, ite_F, ite_t, ite_f]
    intro g2 e2
    have f2 : Fr [] [116] [] g g2 := e2 ▸ fr_hJ
    refine kw g2 ⟨f.trans f2, fun j j1 => ?_, fun j j1 => ?_⟩
    · rw [e2, aJ_hJ]
      by_cases c : 8 * k.toNat + j = (8 * k + i).toNat
      · rw [if_pos c, f.2.2.2.2.2.1 97 (by decide)]
        congr 1
        omega
      · rw [if_neg c, t1 j (by omega)]
    · rw [e2, aJ_hJ, if_neg (by omega), t2 j j1]
  · intro m g hg
    obtain ⟨f, t1, t2⟩ := hg
    have Mg := M.fr f
    show wb_X12_image_51 (wl_X12_image_51 post m) g 92 (iI k) (iI 8) post
    unfold wb_X12_image_51
    have nb : vp_nar .boolean (iI 1) = iI 1 := by decide
    simp (disch := omega) only [MSh.o0 Mg, MSh.p1 Mg, MSh.o1 Mg, MSh.l1 Mg, MSh.p6 Mg, MSh.o2 Mg, MSh.l2 Mg, MSh.p7 Mg, MSh.o3 Mg, MSh.l3 Mg, MSh.p8 Mg, MSh.o4 Mg, MSh.l4 Mg, MSh.p9 Mg, MSh.o5 Mg, MSh.l5 Mg, MSh.p10 Mg, MSh.o6 Mg, MSh.l6 Mg, MSh.p24 Mg, MSh.o7 Mg, MSh.l7 Mg, MSh.p25 Mg, MSh.o8 Mg, MSh.l8 Mg, MSh.p26 Mg, MSh.o9 Mg, MSh.l9 Mg, MSh.p32 Mg, MSh.o10 Mg, MSh.l10 Mg, MSh.p33 Mg, MSh.o11 Mg, MSh.l11 Mg, MSh.p35 Mg, MSh.o12 Mg, MSh.l12 Mg, MSh.p36 Mg, MSh.o13 Mg, MSh.l13 Mg, MSh.p37 Mg, MSh.o14 Mg, MSh.l14 Mg, MSh.p38 Mg, MSh.o15 Mg, MSh.l15 Mg, MSh.p39 Mg, MSh.o16 Mg, MSh.l16 Mg, MSh.p42 Mg, MSh.o17 Mg, MSh.l17 Mg, MSh.p43 Mg, MSh.o18 Mg, MSh.l18 Mg, MSh.p44 Mg, MSh.o19 Mg, MSh.l19 Mg, MSh.p45 Mg, MSh.o20 Mg, MSh.l20 Mg, MSh.p46 Mg, MSh.o21 Mg, MSh.l21 Mg, MSh.p47 Mg, MSh.o22 Mg, MSh.l22 Mg, MSh.p50 Mg, MSh.o23 Mg, MSh.l23 Mg, MSh.p51 Mg, MSh.o24 Mg, MSh.l24 Mg, MSh.p52 Mg, MSh.o25 Mg, MSh.l25 Mg, nb, -Int.reduceToNat, -Int32.reduceToNatClampNeg, il0, il1, il2, il3, il4, il5, il6, il7, il8, il9, il10, il11, il12, il13, il14, il15, il16, il17, il18, il19, il20, il21, il22, il23, il24, il25, il26, il27, il28, il29, il30, il31, il32, il35, il36, il38, il40, il42, il43, il44, il45, il46, il47, il48, il49, il50, il51, il52, il57, il59, il60, il63, il64, il75, il80, il95, il96, il97, il98, il99, il100, il120, il122, il123, il127, il128, il135, il167, il175, il225, il249, il250, il255, il256, il360, il370, il384, il600, il700, il740, il900, il940, il1024, il1600, il4800, il64000, il125000, il262143, il1000000000, iI_toInt, iI_add, iI_sub, iI_mul, iI_neg, iI_lt, iI_le, iI_eq, iI_n, iI_in, iI_div, iI_mod, iI_shm, iI_and1, iI_and7, iI_and63, iI_shr3, iI_shr6, rd_I, ob, Option.some.injEq, exists_eq_left', exists_eq_left, true_and, and_true, fqI, fqJ, eq_self, true_or, or_true, bP_0, bP_0i, npP, bP_1i, bP_b, not_true_eq_false, not_false_eq_true, false_implies, true_implies, implies_true, Classical.not_not, and_self, cP, cP', ite_n, ite_T, ite_F, ite_t, ite_f]
    intro g2 e2
    obtain ⟨f2, r2⟩ := wI (by omega) (by omega) (by omega) e2
    refine kk g2 ((f.mono (by simp) (by simp) (by simp)).trans (f2.mono (by simp) (by simp) (by simp))) (fun j hj => ?_) (fun j hj => ?_) (by rw [r2, f.row (by decide)])
    · rw [f2.2.2.2.2.2.1 _ List.not_mem_nil]; exact t1 j (by omega)
    · rw [f2.2.2.2.2.2.1 _ List.not_mem_nil]; exact t2 j hj
theorem mX_image (M : MSh h) (Z : Z24 h) (h3 : -2147483648 ≤ k) (h4 : k < 2147483648) (k1 : ∀ h', (0 ≤ k ∧ k ≤ 1) → Fr [92, 115, 117] [116] [] h h' → (∀ j, j ∈ QW → rd h' 92 j = rd h 92 j) → (∀ j, 0 ≤ j → j < 370 → rd h' 115 (370 * k + j) = rd h 94 j) → (∀ j, j < 370 * k ∨ 370 * k + 370 ≤ j → rd h' 115 j = rd h 115 j) → (∀ j : Nat, j < 8 → aJ h' 116 (8 * k.toNat + j) = aJ h 97 j) → (∀ j : Nat, ¬ (8 * k.toNat ≤ j ∧ j < 8 * k.toNat + 8) → aJ h' 116 j = aJ h 116 j) → rd h' 117 = updT (rd h 117) k 1 → post h' (iI 1)) (k0 : ∀ h', ¬ (0 ≤ k ∧ k ≤ 1) → Qt h h' → post h' (iI 0)) : wp_X12_image h 92 (iI k) post := by
  unfold wp_X12_image
  refine ⟨M.o0, fun h1 e1 => ?_⟩
  obtain ⟨M1, q1, f1, r1, -⟩ := m_thr0 M Z e1
  simp (disch := omega) only [-Int.reduceToNat, -Int32.reduceToNatClampNeg, il0, il1, il2, il3, il4, il5, il6, il7, il8, il9, il10, il11, il12, il13, il14, il15, il16, il17, il18, il19, il20, il21, il22, il23, il24, il25, il26, il27, il28, il29, il30, il31, il32, il35, il36, il38, il40, il42, il43, il44, il45, il46, il47, il48, il49, il50, il51, il52, il57, il59, il60, il63, il64, il75, il80, il95, il96, il97, il98, il99, il100, il120, il122, il123, il127, il128, il135, il167, il175, il225, il249, il250, il255, il256, il360, il370, il384, il600, il700, il740, il900, il940, il1024, il1600, il4800, il64000, il125000, il262143, il1000000000, iI_toInt, iI_add, iI_sub, iI_mul, iI_neg, iI_lt, iI_le, iI_eq, iI_n, iI_in, iI_div, iI_mod, iI_shm, iI_and1, iI_and7, iI_and63, iI_shr3, iI_shr6, rd_I, ob, Option.some.injEq, exists_eq_left', exists_eq_left, true_and, and_true, fqI, fqJ, eq_self, true_or, or_true, bP_0, bP_0i, npP, bP_1i, bP_b, not_true_eq_false, not_false_eq_true, false_implies, true_implies, implies_true, Classical.not_not, and_self, cP, cP', ite_n, m_isIn]
  by_cases ck : 0 ≤ k ∧ k ≤ 1
  case neg => rw [ite_f ck]; exact k0 h1 ck q1
  rw [ite_t ck]
  refine lf_for (W := fun n (g : AH) j => wl_X12_image_18 post n g 92 (iI k) (iI j)) (lo := 0) (hi := 370) (fun i g => Fr [115] [] [] h1 g ∧ (∀ j, 0 ≤ j → j < i → rd g 115 (370 * k + j) = rd h1 94 j) ∧ (∀ j, j < 370 * k ∨ 370 * k + 370 ≤ j → rd g 115 j = rd h1 115 j)) (by omega) ?_ ?_ h1 ⟨(Fr.refl h1).mono (by simp) (by simp) (by simp), fun j j1 j2 => by omega, fun _ _ => rfl⟩
  · intro m g i i1 i2 hg kw
    obtain ⟨f, t1, t2⟩ := hg
    have Mg := M1.fr f
    show wb_X12_image_18 (wl_X12_image_18 post m) g 92 (iI k) (iI i) post
    unfold wb_X12_image_18
    simp (disch := omega) only [MSh.o0 Mg, MSh.p1 Mg, MSh.o1 Mg, MSh.l1 Mg, MSh.p6 Mg, MSh.o2 Mg, MSh.l2 Mg, MSh.p7 Mg, MSh.o3 Mg, MSh.l3 Mg, MSh.p8 Mg, MSh.o4 Mg, MSh.l4 Mg, MSh.p9 Mg, MSh.o5 Mg, MSh.l5 Mg, MSh.p10 Mg, MSh.o6 Mg, MSh.l6 Mg, MSh.p24 Mg, MSh.o7 Mg, MSh.l7 Mg, MSh.p25 Mg, MSh.o8 Mg, MSh.l8 Mg, MSh.p26 Mg, MSh.o9 Mg, MSh.l9 Mg, MSh.p32 Mg, MSh.o10 Mg, MSh.l10 Mg, MSh.p33 Mg, MSh.o11 Mg, MSh.l11 Mg, MSh.p35 Mg, MSh.o12 Mg, MSh.l12 Mg, MSh.p36 Mg, MSh.o13 Mg, MSh.l13 Mg, MSh.p37 Mg, MSh.o14 Mg, MSh.l14 Mg, MSh.p38 Mg, MSh.o15 Mg, MSh.l15 Mg, MSh.p39 Mg, MSh.o16 Mg, MSh.l16 Mg, MSh.p42 Mg, MSh.o17 Mg, MSh.l17 Mg, MSh.p43 Mg, MSh.o18 Mg, MSh.l18 Mg, MSh.p44 Mg, MSh.o19 Mg, MSh.l19 Mg, MSh.p45 Mg, MSh.o20 Mg, MSh.l20 Mg, MSh.p46 Mg, MSh.o21 Mg, MSh.l21 Mg, MSh.p47 Mg, MSh.o22 Mg, MSh.l22 Mg, MSh.p50 Mg, MSh.o23 Mg, MSh.l23 Mg, MSh.p51 Mg, MSh.o24 Mg, MSh.l24 Mg, MSh.p52 Mg, MSh.o25 Mg, MSh.l25 Mg, -Int.reduceToNat, -Int32.reduceToNatClampNeg, il0, il1, il2, il3, il4, il5, il6, il7, il8, il9, il10, il11, il12, il13, il14, il15, il16, il17, il18, il19, il20, il21, il22, il23, il24, il25, il26, il27, il28, il29, il30, il31, il32, il35, il36, il38, il40, il42, il43, il44, il45, il46, il47, il48, il49, il50, il51, il52, il57, il59, il60, il63, il64, il75, il80, il95, il96, il97, il98, il99, il100, il120, il122, il123, il127, il128, il135, il167, il175, il225, il249, il250, il255, il256, il360, il370, il384, il600, il700, il740, il900, il940, il1024, il1600, il4800, il64000, il125000, il262143, il1000000000, iI_toInt, iI_add, iI_sub, iI_mul, iI_neg, iI_lt, iI_le, iI_eq, iI_n, iI_in, iI_div, iI_mod, iI_shm, iI_and1, iI_and7, iI_and63, iI_shr3, iI_shr6, rd_I, ob, Option.some.injEq, exists_eq_left', exists_eq_left, true_and, and_true, fqI, fqJ, eq_self, true_or, or_true, bP_0, bP_0i, npP, bP_1i, bP_b, not_true_eq_false, not_false_eq_true, false_implies, true_implies, implies_true, Classical.not_not, and_self, cP, cP', ite_n, ite_T, ite_F, ite_t, ite_f]
    intro g2 e2
    have q := rd_bd g 94 i
    obtain ⟨f2, r2⟩ := wI (by omega) q.1 q.2 e2
    refine kw g2 ⟨f.trans f2, fun j j1 j2 => ?_, fun j j1 => ?_⟩
    · rw [r2]
      by_cases c : j = i
      · subst c; rw [updT_s, f.row (by decide)]
      · rw [updT_n (by omega), t1 j j1 (by omega)]
    · rw [r2, updT_n (by omega), t2 j j1]
  · intro m g hg
    obtain ⟨f, t1, t2⟩ := hg
    have Mg := M1.fr f
    show wb_X12_image_18 (wl_X12_image_18 post m) g 92 (iI k) (iI 370) post
    unfold wb_X12_image_18
    simp (disch := omega) only [MSh.o0 Mg, MSh.p1 Mg, MSh.o1 Mg, MSh.l1 Mg, MSh.p6 Mg, MSh.o2 Mg, MSh.l2 Mg, MSh.p7 Mg, MSh.o3 Mg, MSh.l3 Mg, MSh.p8 Mg, MSh.o4 Mg, MSh.l4 Mg, MSh.p9 Mg, MSh.o5 Mg, MSh.l5 Mg, MSh.p10 Mg, MSh.o6 Mg, MSh.l6 Mg, MSh.p24 Mg, MSh.o7 Mg, MSh.l7 Mg, MSh.p25 Mg, MSh.o8 Mg, MSh.l8 Mg, MSh.p26 Mg, MSh.o9 Mg, MSh.l9 Mg, MSh.p32 Mg, MSh.o10 Mg, MSh.l10 Mg, MSh.p33 Mg, MSh.o11 Mg, MSh.l11 Mg, MSh.p35 Mg, MSh.o12 Mg, MSh.l12 Mg, MSh.p36 Mg, MSh.o13 Mg, MSh.l13 Mg, MSh.p37 Mg, MSh.o14 Mg, MSh.l14 Mg, MSh.p38 Mg, MSh.o15 Mg, MSh.l15 Mg, MSh.p39 Mg, MSh.o16 Mg, MSh.l16 Mg, MSh.p42 Mg, MSh.o17 Mg, MSh.l17 Mg, MSh.p43 Mg, MSh.o18 Mg, MSh.l18 Mg, MSh.p44 Mg, MSh.o19 Mg, MSh.l19 Mg, MSh.p45 Mg, MSh.o20 Mg, MSh.l20 Mg, MSh.p46 Mg, MSh.o21 Mg, MSh.l21 Mg, MSh.p47 Mg, MSh.o22 Mg, MSh.l22 Mg, MSh.p50 Mg, MSh.o23 Mg, MSh.l23 Mg, MSh.p51 Mg, MSh.o24 Mg, MSh.l24 Mg, MSh.p52 Mg, MSh.o25 Mg, MSh.l25 Mg, -Int.reduceToNat, -Int32.reduceToNatClampNeg, il0, il1, il2, il3, il4, il5, il6, il7, il8, il9, il10, il11, il12, il13, il14, il15, il16, il17, il18, il19, il20, il21, il22, il23, il24, il25, il26, il27, il28, il29, il30, il31, il32, il35, il36, il38, il40, il42, il43, il44, il45, il46, il47, il48, il49, il50, il51, il52, il57, il59, il60, il63, il64, il75, il80, il95, il96, il97, il98, il99, il100, il120, il122, il123, il127, il128, il135, il167, il175, il225, il249, il250, il255, il256, il360, il370, il384, il600, il700, il740, il900, il940, il1024, il1600, il4800, il64000, il125000, il262143, il1000000000, iI_toInt, iI_add, iI_sub, iI_mul, iI_neg, iI_lt, iI_le, iI_eq, iI_n, iI_in, iI_div, iI_mod, iI_shm, iI_and1, iI_and7, iI_and63, iI_shr3, iI_shr6, rd_I, ob, Option.some.injEq, exists_eq_left', exists_eq_left, true_and, and_true, fqI, fqJ, eq_self, true_or, or_true, bP_0, bP_0i, npP, bP_1i, bP_b, not_true_eq_false, not_false_eq_true, false_implies, true_implies, implies_true, Classical.not_not, and_self, cP, cP', ite_n, ite_T, ite_F, ite_t, ite_f]
    refine m_image51 Mg ck fun g2 f2 u1 u2 u3 => ?_
    have F : Fr [115, 117] [116] [] h1 g2 := (f.mono (by simp) (by simp) (by simp)).trans (f2.mono (by simp) (by simp) (by simp))
    refine k1 g2 ck ((f1.mono (by simp) (by simp) (by simp)).trans (F.mono (by simp) (by simp) (by simp))) (fun j hj => ?_) (fun j j1 j2 => ?_) (fun j j1 => ?_) (fun j j1 => ?_) (fun j j1 => ?_) ?_
    · rw [F.row (by decide), q1.2.1 j hj]
    · rw [f2.row (by decide), t1 j j1 j2, f1.row (by decide)]
    · rw [f2.row (by decide), t2 j j1, f1.row (by decide)]
    · rw [u1 j j1, f.2.2.2.2.2.1 _ List.not_mem_nil, f1.2.2.2.2.2.1 _ List.not_mem_nil]
    · rw [u2 j j1, f.2.2.2.2.2.1 _ List.not_mem_nil, f1.2.2.2.2.2.1 _ List.not_mem_nil]
    · rw [u3, f.row (by decide), f1.row (by decide)]
theorem m_restore60 (M : MSh h) (hk : 0 ≤ k ∧ k ≤ 1) (kk : ∀ h', Fr [] [97] [] h h' → (∀ j : Nat, j < 8 → aJ h' 97 j = aJ h 116 (8 * k.toNat + j)) → post h' (iI 1)) : ∃ n, wl_X12_restore_60 post n h 92 (iI k) (iI 0) := by
  refine lf_for (W := fun n (g : AH) j => wl_X12_restore_60 post n g 92 (iI k) (iI j)) (lo := 0) (hi := 8) (fun i g => Fr [] [97] [] h g ∧ (∀ j : Nat, (j : Int) < i → aJ g 97 j = aJ h 116 (8 * k.toNat + j))) (by omega) ?_ ?_ h ⟨(Fr.refl h).mono (by simp) (by simp) (by simp), fun j j1 => by omega⟩
  · intro m g i i1 i2 hg kw
    obtain ⟨f, t1⟩ := hg
    have Mg := M.fr f
    show wb_X12_restore_60 (wl_X12_restore_60 post m) g 92 (iI k) (iI i) post
    unfold wb_X12_restore_60
    simp (disch := omega) only [MSh.o0 Mg, MSh.p1 Mg, MSh.o1 Mg, MSh.l1 Mg, MSh.p6 Mg, MSh.o2 Mg, MSh.l2 Mg, MSh.p7 Mg, MSh.o3 Mg, MSh.l3 Mg, MSh.p8 Mg, MSh.o4 Mg, MSh.l4 Mg, MSh.p9 Mg, MSh.o5 Mg, MSh.l5 Mg, MSh.p10 Mg, MSh.o6 Mg, MSh.l6 Mg, MSh.p24 Mg, MSh.o7 Mg, MSh.l7 Mg, MSh.p25 Mg, MSh.o8 Mg, MSh.l8 Mg, MSh.p26 Mg, MSh.o9 Mg, MSh.l9 Mg, MSh.p32 Mg, MSh.o10 Mg, MSh.l10 Mg, MSh.p33 Mg, MSh.o11 Mg, MSh.l11 Mg, MSh.p35 Mg, MSh.o12 Mg, MSh.l12 Mg, MSh.p36 Mg, MSh.o13 Mg, MSh.l13 Mg, MSh.p37 Mg, MSh.o14 Mg, MSh.l14 Mg, MSh.p38 Mg, MSh.o15 Mg, MSh.l15 Mg, MSh.p39 Mg, MSh.o16 Mg, MSh.l16 Mg, MSh.p42 Mg, MSh.o17 Mg, MSh.l17 Mg, MSh.p43 Mg, MSh.o18 Mg, MSh.l18 Mg, MSh.p44 Mg, MSh.o19 Mg, MSh.l19 Mg, MSh.p45 Mg, MSh.o20 Mg, MSh.l20 Mg, MSh.p46 Mg, MSh.o21 Mg, MSh.l21 Mg, MSh.p47 Mg, MSh.o22 Mg, MSh.l22 Mg, MSh.p50 Mg, MSh.o23 Mg, MSh.l23 Mg, MSh.p51 Mg, MSh.o24 Mg, MSh.l24 Mg, MSh.p52 Mg, MSh.o25 Mg, MSh.l25 Mg, -Int.reduceToNat, -Int32.reduceToNatClampNeg, il0, il1, il2, il3, il4, il5, il6, il7, il8, il9, il10, il11, il12, il13, il14, il15, il16, il17, il18, il19, il20, il21, il22, il23, il24, il25, il26, il27, il28, il29, il30, il31, il32, il35, il36, il38, il40, il42, il43, il44, il45, il46, il47, il48, il49, il50, il51, il52, il57, il59, il60, il63, il64, il75, il80, il95, il96, il97, il98, il99, il100, il120, il122, il123, il127, il128, il135, il167, il175, il225, il249, il250, il255, il256, il360, il370, il384, il600, il700, il740, il900, il940, il1024, il1600, il4800, il64000, il125000, il262143, il1000000000, iI_toInt, iI_add, iI_sub, iI_mul, iI_neg, iI_lt, iI_le, iI_eq, iI_n, iI_in, iI_div, iI_mod, iI_shm, iI_and1, iI_and7, iI_and63, iI_shr3, iI_shr6, rd_I, ob, Option.some.injEq, exists_eq_left', exists_eq_left, true_and, and_true, fqI, fqJ, eq_self, true_or, or_true, bP_0, bP_0i, npP, bP_1i, bP_b, not_true_eq_false, not_false_eq_true, false_implies, true_implies, implies_true, Classical.not_not, and_self, cP, cP', ite_n, ite_T, ite_F, ite_t, ite_f]
    intro g2 e2
    have f2 : Fr [] [97] [] g g2 := e2 ▸ fr_hJ
    refine kw g2 ⟨f.trans f2, fun j j1 => ?_⟩
    rw [e2, aJ_hJ]
    by_cases c : j = i.toNat
    · rw [if_pos c, f.2.2.2.2.2.1 116 (by decide)]
      congr 1
      omega
    · rw [if_neg c, t1 j (by omega)]
  · intro m g hg
    obtain ⟨f, t1⟩ := hg
    show wb_X12_restore_60 (wl_X12_restore_60 post m) g 92 (iI k) (iI 8) post
    unfold wb_X12_restore_60
    simp (disch := omega) only [-Int.reduceToNat, -Int32.reduceToNatClampNeg, il0, il1, il2, il3, il4, il5, il6, il7, il8, il9, il10, il11, il12, il13, il14, il15, il16, il17, il18, il19, il20, il21, il22, il23, il24, il25, il26, il27, il28, il29, il30, il31, il32, il35, il36, il38, il40, il42, il43, il44, il45, il46, il47, il48, il49, il50, il51, il52, il57, il59, il60, il63, il64, il75, il80, il95, il96, il97, il98, il99, il100, il120, il122, il123, il127, il128, il135, il167, il175, il225, il249, il250, il255, il256, il360, il370, il384, il600, il700, il740, il900, il940, il1024, il1600, il4800, il64000, il125000, il262143, il1000000000, iI_toInt, iI_add, iI_sub, iI_mul, iI_neg, iI_lt, iI_le, iI_eq, iI_n, iI_in, iI_div, iI_mod, iI_shm, iI_and1, iI_and7, iI_and63, iI_shr3, iI_shr6, rd_I, ob, Option.some.injEq, exists_eq_left', exists_eq_left, true_and, and_true, fqI, fqJ, eq_self, true_or, or_true, bP_0, bP_0i, npP, bP_1i, bP_b, not_true_eq_false, not_false_eq_true, false_implies, true_implies, implies_true, Classical.not_not, and_self, cP, cP', ite_n, ite_T, ite_F, ite_t, ite_f]
    exact kk g f fun j hj => t1 j (by omega)
theorem mX_restore (M : MSh h) (Z : Z24 h) (h3 : -2147483648 ≤ k) (h4 : k < 2147483648) (hb : (0 ≤ k ∧ k ≤ 1) → rd h 117 k = 0 ∨ rd h 117 k = 1) (k1 : ∀ h', (0 ≤ k ∧ k ≤ 1) ∧ rd h 117 k = 1 → Fr [92, 94] [97] [] h h' → (∀ j, j ∈ QW → rd h' 92 j = rd h 92 j) → (∀ j, 0 ≤ j → j < 370 → rd h' 94 j = rd h 115 (370 * k + j)) → (∀ j : Nat, j < 8 → aJ h' 97 j = aJ h 116 (8 * k.toNat + j)) → post h' (iI 1)) (k0 : ∀ h', ¬ ((0 ≤ k ∧ k ≤ 1) ∧ rd h 117 k = 1) → Qt h h' → post h' (iI 0)) : wp_X12_restore h 92 (iI k) post := by
  unfold wp_X12_restore
  refine ⟨M.o0, fun h1 e1 => ?_⟩
  obtain ⟨M1, q1, f1, r1, -⟩ := m_thr0 M Z e1
  simp (disch := omega) only [-Int.reduceToNat, -Int32.reduceToNatClampNeg, il0, il1, il2, il3, il4, il5, il6, il7, il8, il9, il10, il11, il12, il13, il14, il15, il16, il17, il18, il19, il20, il21, il22, il23, il24, il25, il26, il27, il28, il29, il30, il31, il32, il35, il36, il38, il40, il42, il43, il44, il45, il46, il47, il48, il49, il50, il51, il52, il57, il59, il60, il63, il64, il75, il80, il95, il96, il97, il98, il99, il100, il120, il122, il123, il127, il128, il135, il167, il175, il225, il249, il250, il255, il256, il360, il370, il384, il600, il700, il740, il900, il940, il1024, il1600, il4800, il64000, il125000, il262143, il1000000000, iI_toInt, iI_add, iI_sub, iI_mul, iI_neg, iI_lt, iI_le, iI_eq, iI_n, iI_in, iI_div, iI_mod, iI_shm, iI_and1, iI_and7, iI_and63, iI_shr3, iI_shr6, rd_I, ob, Option.some.injEq, exists_eq_left', exists_eq_left, true_and, and_true, fqI, fqJ, eq_self, true_or, or_true, bP_0, bP_0i, npP, bP_1i, bP_b, not_true_eq_false, not_false_eq_true, false_implies, true_implies, implies_true, Classical.not_not, and_self, cP, cP', ite_n, m_isIn]
  by_cases ck : 0 ≤ k ∧ k ≤ 1
  case neg => rw [ite_f ck]; exact k0 h1 (fun p => ck p.1) q1
  rw [ite_t ck]
  have e117 : rd h1 117 = rd h 117 := f1.row (by decide)
  have hb := hb ck
  simp (disch := omega) only [MSh.o0 M1, MSh.p1 M1, MSh.o1 M1, MSh.l1 M1, MSh.p6 M1, MSh.o2 M1, MSh.l2 M1, MSh.p7 M1, MSh.o3 M1, MSh.l3 M1, MSh.p8 M1, MSh.o4 M1, MSh.l4 M1, MSh.p9 M1, MSh.o5 M1, MSh.l5 M1, MSh.p10 M1, MSh.o6 M1, MSh.l6 M1, MSh.p24 M1, MSh.o7 M1, MSh.l7 M1, MSh.p25 M1, MSh.o8 M1, MSh.l8 M1, MSh.p26 M1, MSh.o9 M1, MSh.l9 M1, MSh.p32 M1, MSh.o10 M1, MSh.l10 M1, MSh.p33 M1, MSh.o11 M1, MSh.l11 M1, MSh.p35 M1, MSh.o12 M1, MSh.l12 M1, MSh.p36 M1, MSh.o13 M1, MSh.l13 M1, MSh.p37 M1, MSh.o14 M1, MSh.l14 M1, MSh.p38 M1, MSh.o15 M1, MSh.l15 M1, MSh.p39 M1, MSh.o16 M1, MSh.l16 M1, MSh.p42 M1, MSh.o17 M1, MSh.l17 M1, MSh.p43 M1, MSh.o18 M1, MSh.l18 M1, MSh.p44 M1, MSh.o19 M1, MSh.l19 M1, MSh.p45 M1, MSh.o20 M1, MSh.l20 M1, MSh.p46 M1, MSh.o21 M1, MSh.l21 M1, MSh.p47 M1, MSh.o22 M1, MSh.l22 M1, MSh.p50 M1, MSh.o23 M1, MSh.l23 M1, MSh.p51 M1, MSh.o24 M1, MSh.l24 M1, MSh.p52 M1, MSh.o25 M1, MSh.l25 M1, e117, -Int.reduceToNat, -Int32.reduceToNatClampNeg, il0, il1, il2, il3, il4, il5, il6, il7, il8, il9, il10, il11, il12, il13, il14, il15, il16, il17, il18, il19, il20, il21, il22, il23, il24, il25, il26, il27, il28, il29, il30, il31, il32, il35, il36, il38, il40, il42, il43, il44, il45, il46, il47, il48, il49, il50, il51, il52, il57, il59, il60, il63, il64, il75, il80, il95, il96, il97, il98, il99, il100, il120, il122, il123, il127, il128, il135, il167, il175, il225, il249, il250, il255, il256, il360, il370, il384, il600, il700, il740, il900, il940, il1024, il1600, il4800, il64000, il125000, il262143, il1000000000, iI_toInt, iI_add, iI_sub, iI_mul, iI_neg, iI_lt, iI_le, iI_eq, iI_n, iI_in, iI_div, iI_mod, iI_shm, iI_and1, iI_and7, iI_and63, iI_shr3, iI_shr6, rd_I, ob, Option.some.injEq, exists_eq_left', exists_eq_left, true_and, and_true, fqI, fqJ, eq_self, true_or, or_true, bP_0, bP_0i, npP, bP_1i, bP_b, not_true_eq_false, not_false_eq_true, false_implies, true_implies, implies_true, Classical.not_not, and_self]
  by_cases c0 : rd h 117 k = 0
  · rw [ite_t c0]; exact k0 h1 (fun p => by omega) q1
  rw [ite_f c0]
  refine lf_for (W := fun n (g : AH) j => wl_X12_restore_27 post n g 92 (iI k) (iI j)) (lo := 0) (hi := 370) (fun i g => Fr [94] [] [] h1 g ∧ (∀ j, 0 ≤ j → j < i → rd g 94 j = rd h1 115 (370 * k + j))) (by omega) ?_ ?_ h1 ⟨(Fr.refl h1).mono (by simp) (by simp) (by simp), fun j j1 j2 => by omega⟩
  · intro m g i i1 i2 hg kw
    obtain ⟨f, t1⟩ := hg
    have Mg := M1.fr f
    show wb_X12_restore_27 (wl_X12_restore_27 post m) g 92 (iI k) (iI i) post
    unfold wb_X12_restore_27
    simp (disch := omega) only [MSh.o0 Mg, MSh.p1 Mg, MSh.o1 Mg, MSh.l1 Mg, MSh.p6 Mg, MSh.o2 Mg, MSh.l2 Mg, MSh.p7 Mg, MSh.o3 Mg, MSh.l3 Mg, MSh.p8 Mg, MSh.o4 Mg, MSh.l4 Mg, MSh.p9 Mg, MSh.o5 Mg, MSh.l5 Mg, MSh.p10 Mg, MSh.o6 Mg, MSh.l6 Mg, MSh.p24 Mg, MSh.o7 Mg, MSh.l7 Mg, MSh.p25 Mg, MSh.o8 Mg, MSh.l8 Mg, MSh.p26 Mg, MSh.o9 Mg, MSh.l9 Mg, MSh.p32 Mg, MSh.o10 Mg, MSh.l10 Mg, MSh.p33 Mg, MSh.o11 Mg, MSh.l11 Mg, MSh.p35 Mg, MSh.o12 Mg, MSh.l12 Mg, MSh.p36 Mg, MSh.o13 Mg, MSh.l13 Mg, MSh.p37 Mg, MSh.o14 Mg, MSh.l14 Mg, MSh.p38 Mg, MSh.o15 Mg, MSh.l15 Mg, MSh.p39 Mg, MSh.o16 Mg, MSh.l16 Mg, MSh.p42 Mg, MSh.o17 Mg, MSh.l17 Mg, MSh.p43 Mg, MSh.o18 Mg, MSh.l18 Mg, MSh.p44 Mg, MSh.o19 Mg, MSh.l19 Mg, MSh.p45 Mg, MSh.o20 Mg, MSh.l20 Mg, MSh.p46 Mg, MSh.o21 Mg, MSh.l21 Mg, MSh.p47 Mg, MSh.o22 Mg, MSh.l22 Mg, MSh.p50 Mg, MSh.o23 Mg, MSh.l23 Mg, MSh.p51 Mg, MSh.o24 Mg, MSh.l24 Mg, MSh.p52 Mg, MSh.o25 Mg, MSh.l25 Mg, -Int.reduceToNat, -Int32.reduceToNatClampNeg, il0, il1, il2, il3, il4, il5, il6, il7, il8, il9, il10, il11, il12, il13, il14, il15, il16, il17, il18, il19, il20, il21, il22, il23, il24, il25, il26, il27, il28, il29, il30, il31, il32, il35, il36, il38, il40, il42, il43, il44, il45, il46, il47, il48, il49, il50, il51, il52, il57, il59, il60, il63, il64, il75, il80, il95, il96, il97, il98, il99, il100, il120, il122, il123, il127, il128, il135, il167, il175, il225, il249, il250, il255, il256, il360, il370, il384, il600, il700, il740, il900, il940, il1024, il1600, il4800, il64000, il125000, il262143, il1000000000, iI_toInt, iI_add, iI_sub, iI_mul, iI_neg, iI_lt, iI_le, iI_eq, iI_n, iI_in, iI_div, iI_mod, iI_shm, iI_and1, iI_and7, iI_and63, iI_shr3, iI_shr6, rd_I, ob, Option.some.injEq, exists_eq_left', exists_eq_left, true_and, and_true, fqI, fqJ, eq_self, true_or, or_true, bP_0, bP_0i, npP, bP_1i, bP_b, not_true_eq_false, not_false_eq_true, false_implies, true_implies, implies_true, Classical.not_not, and_self, cP, cP', ite_n, ite_T, ite_F, ite_t, ite_f]
    intro g2 e2
    have q := rd_bd g 115 (370 * k + i)
    obtain ⟨f2, r2⟩ := wI (by omega) q.1 q.2 e2
    refine kw g2 ⟨f.trans f2, fun j j1 j2 => ?_⟩
    rw [r2]
    by_cases c : j = i
    · subst c; rw [updT_s, f.row (by decide)]
    · rw [updT_n (by omega), t1 j j1 (by omega)]
  · intro m g hg
    obtain ⟨f, t1⟩ := hg
    have Mg := M1.fr f
    show wb_X12_restore_27 (wl_X12_restore_27 post m) g 92 (iI k) (iI 370) post
    unfold wb_X12_restore_27
    simp (disch := omega) only [MSh.o0 Mg, MSh.p1 Mg, MSh.o1 Mg, MSh.l1 Mg, MSh.p6 Mg, MSh.o2 Mg, MSh.l2 Mg, MSh.p7 Mg, MSh.o3 Mg, MSh.l3 Mg, MSh.p8 Mg, MSh.o4 Mg, MSh.l4 Mg, MSh.p9 Mg, MSh.o5 Mg, MSh.l5 Mg, MSh.p10 Mg, MSh.o6 Mg, MSh.l6 Mg, MSh.p24 Mg, MSh.o7 Mg, MSh.l7 Mg, MSh.p25 Mg, MSh.o8 Mg, MSh.l8 Mg, MSh.p26 Mg, MSh.o9 Mg, MSh.l9 Mg, MSh.p32 Mg, MSh.o10 Mg, MSh.l10 Mg, MSh.p33 Mg, MSh.o11 Mg, MSh.l11 Mg, MSh.p35 Mg, MSh.o12 Mg, MSh.l12 Mg, MSh.p36 Mg, MSh.o13 Mg, MSh.l13 Mg, MSh.p37 Mg, MSh.o14 Mg, MSh.l14 Mg, MSh.p38 Mg, MSh.o15 Mg, MSh.l15 Mg, MSh.p39 Mg, MSh.o16 Mg, MSh.l16 Mg, MSh.p42 Mg, MSh.o17 Mg, MSh.l17 Mg, MSh.p43 Mg, MSh.o18 Mg, MSh.l18 Mg, MSh.p44 Mg, MSh.o19 Mg, MSh.l19 Mg, MSh.p45 Mg, MSh.o20 Mg, MSh.l20 Mg, MSh.p46 Mg, MSh.o21 Mg, MSh.l21 Mg, MSh.p47 Mg, MSh.o22 Mg, MSh.l22 Mg, MSh.p50 Mg, MSh.o23 Mg, MSh.l23 Mg, MSh.p51 Mg, MSh.o24 Mg, MSh.l24 Mg, MSh.p52 Mg, MSh.o25 Mg, MSh.l25 Mg, -Int.reduceToNat, -Int32.reduceToNatClampNeg, il0, il1, il2, il3, il4, il5, il6, il7, il8, il9, il10, il11, il12, il13, il14, il15, il16, il17, il18, il19, il20, il21, il22, il23, il24, il25, il26, il27, il28, il29, il30, il31, il32, il35, il36, il38, il40, il42, il43, il44, il45, il46, il47, il48, il49, il50, il51, il52, il57, il59, il60, il63, il64, il75, il80, il95, il96, il97, il98, il99, il100, il120, il122, il123, il127, il128, il135, il167, il175, il225, il249, il250, il255, il256, il360, il370, il384, il600, il700, il740, il900, il940, il1024, il1600, il4800, il64000, il125000, il262143, il1000000000, iI_toInt, iI_add, iI_sub, iI_mul, iI_neg, iI_lt, iI_le, iI_eq, iI_n, iI_in, iI_div, iI_mod, iI_shm, iI_and1, iI_and7, iI_and63, iI_shr3, iI_shr6, rd_I, ob, Option.some.injEq, exists_eq_left', exists_eq_left, true_and, and_true, fqI, fqJ, eq_self, true_or, or_true, bP_0, bP_0i, npP, bP_1i, bP_b, not_true_eq_false, not_false_eq_true, false_implies, true_implies, implies_true, Classical.not_not, and_self, cP, cP', ite_n, ite_T, ite_F, ite_t, ite_f]
    refine m_restore60 Mg ck fun g2 f2 u1 => ?_
    have F : Fr [94] [97] [] h1 g2 := (f.mono (by simp) (by simp) (by simp)).trans (f2.mono (by simp) (by simp) (by simp))
    refine k1 g2 ⟨ck, by omega⟩ ((f1.mono (by simp) (by simp) (by simp)).trans (F.mono (by simp) (by simp) (by simp))) (fun j hj => ?_) (fun j j1 j2 => ?_) (fun j j1 => ?_)
    · rw [F.row (by decide), q1.2.1 j hj]
    · rw [f2.row (by decide), t1 j j1 j2, f1.row (by decide)]
    · rw [u1 j j1, f.2.2.2.2.2.1 _ List.not_mem_nil, f1.2.2.2.2.2.1 _ List.not_mem_nil]
end IMAGE
