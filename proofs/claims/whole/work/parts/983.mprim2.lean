/-! the model reads words, numbers, rafts, cells, in a LINE -/
section MPS
variable {h h1 h2 h' h0 g : AH} {postV : AH → Prop} {post : AH → Int32 → Prop} {a b c d r x y n m p q e k i j v w lo hi td qb but : Int} {T s : Int → Int} {l l' : List Int} {N : Int → List Int} {R : RT} {z : Int64}
theorem LX.takes {ok : Int → Int → RT} (Q : LX T n m h0 h p s N td qb) (e : R = nuS T n m lo hi p ok) (hlo : -2147483648 ≤ lo ∧ lo < 2147483648) (hhi : -2147483648 ≤ hi ∧ hi < 2147483648) (KF : ∀ h', mF h0 h' → Flt h' R → post h' (iI 0)) (KS : ∀ h' v q, pS h h' → LX T n m h0 h' q s N td qb → q = tkE T n m p → rd h' 92 18 = v → lo ≤ v → v ≤ hi → R = ok v q → post h' (iI 1)) : wp_X12_takes h 92 (iI lo) (iI hi) post := by
  unfold nuS at e
  refine m_takes Q.X hlo hhi (fun h' k u c e1 e2 => KF h' (Q.FF.trans u.mf) ?_) (fun h' u c1 c2 X e1 => ?_)
  · rcases c with ⟨c1, c2⟩ | ⟨c1, c2, c3⟩
    · rw [ite_f c1] at e
      rw [e]; exact ⟨by show (1 : Int) ≠ 0; omega, by rw [e1, c2]; rfl, e2⟩
    · rw [ite_t c1, ite_f c2] at e
      rw [e]; exact ⟨by show (2 : Int) ≠ 0; omega, by rw [e1, c3]; rfl, e2⟩
  · rw [ite_t c1, ite_t c2] at e
    exact KS h' _ _ u (Q.pf u X) rfl e1 c2.1 c2.2 e
theorem w8_z (h1 : Ltr l) (h2 : Ltr l') (l1 : l.length ≤ 6) (l2 : l'.length ≤ 6) : Int64.ofInt (w8 l) = Int64.ofInt (w8 l') ↔ l = l' := by
  refine ⟨fun u => ?_, fun u => by rw [u]⟩
  have b1 := w8_bd l h1
  have b2 := w8_bd l' h2
  have p1 := p256_6 l1
  have p2 := p256_6 l2
  have u' := congrArg Int64.toInt u
  rw [Int64.toInt_ofInt_of_le (by omega) (by omega), Int64.toInt_ofInt_of_le (by omega) (by omega)] at u'
  exact w8_inj l l' h1 h2 u'
theorem kmL_ltr {i : Int} (h0 : 0 ≤ i) (h1 : i < 18) : Ltr (kmL.getD i.toNat []) ∧ (kmL.getD i.toNat []).length ≤ 6 := by
  have H : ∀ j : Nat, j < 18 → (∀ c, c ∈ kmL.getD j [] → 97 ≤ c ∧ c ≤ 122) ∧ (kmL.getD j []).length ≤ 6 := by decide
  exact H i.toNat (by omega)
theorem kwI_is (h0 : 0 ≤ i) (h1 : i < 18) : kwI l = i ↔ kwL.getD i.toNat [] = l := by
  have inj : ∀ a : Nat, a < 18 → ∀ b : Nat, b < 18 → kwL.getD a [] = kwL.getD b [] → a = b := by decide +kernel
  unfold kwI
  refine ⟨fun u => ?_, fun u => ?_⟩
  · rcases fstI_spec (P := fun i => kwL.getD i.toNat [] = l) 18 0 (by omega) with v | v
    · omega
    · have := v.2.2.1
      rw [u] at this
      exact this
  · refine fstI_at 18 0 i h0 (by omega) u fun j j0 j1 v => ?_
    have := inj j.toNat (by omega) i.toNat (by omega) (v.trans u.symm)
    omega
theorem kwI_no : kwI l = -1 ↔ ∀ i : Int, 0 ≤ i → i < 18 → ¬ l = kmL.getD i.toNat [] := by
  have sub1 : ∀ a : Nat, a < 18 → ∃ b, b < 18 ∧ kmL.getD a [] = kwL.getD b [] := by decide +kernel
  have sub2 : ∀ a : Nat, a < 18 → ∃ b, b < 18 ∧ kwL.getD a [] = kmL.getD b [] := by decide +kernel
  refine ⟨fun u i i0 i1 v => ?_, fun u => ?_⟩
  · obtain ⟨b, b1, b2⟩ := sub1 i.toNat (by omega)
    have := (kwI_is (l := l) (i := (b : Int)) (by omega) (by omega)).mpr (by rw [v, b2]; rfl)
    omega
  · rcases fstI_spec (P := fun i => kwL.getD i.toNat [] = l) 18 0 (by omega) with v | v
    · exact v.1
    · obtain ⟨b, b1, b2⟩ := sub2 (fstI (fun i => kwL.getD i.toNat [] = l) 18 0).toNat (by omega)
      exact absurd (v.2.2.1.symm.trans b2) (u (b : Int) (by omega) (by omega))
theorem MTk.wrd (Q : MTk T n m h p) (hk : tkK T n m p = 1) : aJ h 92 17 = Int64.ofInt (w8 (tkW T n m p)) ∧ Ltr (tkW T n m p) ∧ (tkW T n m p).length ≤ 6 := ⟨Q.w1 hk, tkW_ok Q.hp hk⟩
theorem m_isName (Q : MTk T n m h p) (W : RSV h) (K1 : tkK T n m p = 1 → kwI (tkW T n m p) = -1 → post h (iI 1)) (K0 : ¬ (tkK T n m p = 1 ∧ kwI (tkW T n m p) = -1) → post h (iI 0)) : wp_X12_isName h 92 post := by
  have M := Q.M
  have b11 := rd_bd h 92 11
  have zero : wb_X12_isName_13 h 92 0 post ↔ wb_X12_isName_13 h 92 (iI 0) post := Iff.rfl
  have one : wb_X12_isName_13 h 92 1 post ↔ wb_X12_isName_13 h 92 (iI 1) post := Iff.rfl
  unfold wp_X12_isName
  rw [zero, one]
  simp (disch := omega) only [MSh.o0 M, MSh.p1 M, MSh.o1 M, MSh.l1 M, MSh.p6 M, MSh.o2 M, MSh.l2 M, MSh.p7 M, MSh.o3 M, MSh.l3 M, MSh.p8 M, MSh.o4 M, MSh.l4 M, MSh.p9 M, MSh.o5 M, MSh.l5 M, MSh.p10 M, MSh.o6 M, MSh.l6 M, MSh.p24 M, MSh.o7 M, MSh.l7 M, MSh.p25 M, MSh.o8 M, MSh.l8 M, MSh.p26 M, MSh.o9 M, MSh.l9 M, MSh.p32 M, MSh.o10 M, MSh.l10 M, MSh.p33 M, MSh.o11 M, MSh.l11 M, MSh.p35 M, MSh.o12 M, MSh.l12 M, MSh.p36 M, MSh.o13 M, MSh.l13 M, MSh.p37 M, MSh.o14 M, MSh.l14 M, MSh.p38 M, MSh.o15 M, MSh.l15 M, MSh.p39 M, MSh.o16 M, MSh.l16 M, MSh.p42 M, MSh.o17 M, MSh.l17 M, MSh.p43 M, MSh.o18 M, MSh.l18 M, MSh.p44 M, MSh.o19 M, MSh.l19 M, MSh.p45 M, MSh.o20 M, MSh.l20 M, MSh.p46 M, MSh.o21 M, MSh.l21 M, MSh.p47 M, MSh.o22 M, MSh.l22 M, MSh.p50 M, MSh.o23 M, MSh.l23 M, MSh.p51 M, MSh.o24 M, MSh.l24 M, MSh.p52 M, MSh.o25 M, MSh.l25 M, fd0, fd1, fd2, fd3, fd4, fd5, fd6, fd7, fd8, fd9, fd10, fd11, fd12, fd13, fd14, fd15, fd16, fd17, fd18, fd19, fd20, fd21, fd22, fd23, fd24, fd25, fd26, fd27, fd28, fd29, fd30, fd31, fd32, fd33, fd34, fd35, fd36, fd37, fd38, fd39, fd40, fd41, fd42, fd43, fd44, fd45, fd46, fd47, fd48, fd49, fd50, fd51, fd52, Q.k1, -Int.reduceToNat, -Int32.reduceToNatClampNeg, il0, il1, il2, il3, il4, il5, il6, il7, il8, il9, il10, il11, il12, il13, il14, il15, il16, il17, il18, il19, il20, il21, il22, il23, il24, il25, il26, il27, il28, il29, il30, il31, il32, il35, il36, il38, il40, il42, il43, il44, il45, il46, il47, il48, il49, il50, il51, il52, il57, il59, il60, il63, il64, il75, il80, il95, il96, il97, il98, il99, il100, il120, il122, il123, il127, il128, il135, il167, il175, il225, il249, il250, il255, il256, il360, il370, il384, il600, il700, il740, il900, il940, il1024, il1600, il4800, il64000, il125000, il262143, il1000000000, iI_toInt, iI_add, iI_sub, iI_mul, iI_neg, iI_lt, iI_le, iI_eq, iI_n, iI_in, iI_div, iI_mod, iI_shm, iI_and1, iI_and7, iI_and63, iI_shr3, iI_shr6, rd_I, ob, Option.some.injEq, exists_eq_left', exists_eq_left, true_and, and_true, fqI, fqJ, eq_self, true_or, or_true, bP_0, bP_0i, npP, bP_1i, bP_b, not_true_eq_false, not_false_eq_true, false_implies, true_implies, implies_true, Classical.not_not, and_self]
  refine ⟨fun c => ?_, fun c => ?_⟩
  · have K := K0 fun u => c u.1
    unfold wb_X12_isName_13
    refine lf_for (W := fun k (b : Int32) i => wl_X12_isName_16 post k h 92 b (iI i)) (lo := 0) (hi := 18) (fun _ b => b = iI 0) (by omega) (fun k b i i0 i1 I nx => ?_) (fun k b I => ?_) (iI 0) rfl
    · subst I
      show wb_X12_isName_16 (wl_X12_isName_16 post k) h 92 (iI 0) (iI i) post
      unfold wb_X12_isName_16 wb_X12_isName_44 wb_X12_isName_45
      simp (disch := omega) only [MSh.o0 M, MSh.p1 M, MSh.o1 M, MSh.l1 M, MSh.p6 M, MSh.o2 M, MSh.l2 M, MSh.p7 M, MSh.o3 M, MSh.l3 M, MSh.p8 M, MSh.o4 M, MSh.l4 M, MSh.p9 M, MSh.o5 M, MSh.l5 M, MSh.p10 M, MSh.o6 M, MSh.l6 M, MSh.p24 M, MSh.o7 M, MSh.l7 M, MSh.p25 M, MSh.o8 M, MSh.l8 M, MSh.p26 M, MSh.o9 M, MSh.l9 M, MSh.p32 M, MSh.o10 M, MSh.l10 M, MSh.p33 M, MSh.o11 M, MSh.l11 M, MSh.p35 M, MSh.o12 M, MSh.l12 M, MSh.p36 M, MSh.o13 M, MSh.l13 M, MSh.p37 M, MSh.o14 M, MSh.l14 M, MSh.p38 M, MSh.o15 M, MSh.l15 M, MSh.p39 M, MSh.o16 M, MSh.l16 M, MSh.p42 M, MSh.o17 M, MSh.l17 M, MSh.p43 M, MSh.o18 M, MSh.l18 M, MSh.p44 M, MSh.o19 M, MSh.l19 M, MSh.p45 M, MSh.o20 M, MSh.l20 M, MSh.p46 M, MSh.o21 M, MSh.l21 M, MSh.p47 M, MSh.o22 M, MSh.l22 M, MSh.p50 M, MSh.o23 M, MSh.l23 M, MSh.p51 M, MSh.o24 M, MSh.l24 M, MSh.p52 M, MSh.o25 M, MSh.l25 M, -Int.reduceToNat, -Int32.reduceToNatClampNeg, il0, il1, il2, il3, il4, il5, il6, il7, il8, il9, il10, il11, il12, il13, il14, il15, il16, il17, il18, il19, il20, il21, il22, il23, il24, il25, il26, il27, il28, il29, il30, il31, il32, il35, il36, il38, il40, il42, il43, il44, il45, il46, il47, il48, il49, il50, il51, il52, il57, il59, il60, il63, il64, il75, il80, il95, il96, il97, il98, il99, il100, il120, il122, il123, il127, il128, il135, il167, il175, il225, il249, il250, il255, il256, il360, il370, il384, il600, il700, il740, il900, il940, il1024, il1600, il4800, il64000, il125000, il262143, il1000000000, iI_toInt, iI_add, iI_sub, iI_mul, iI_neg, iI_lt, iI_le, iI_eq, iI_n, iI_in, iI_div, iI_mod, iI_shm, iI_and1, iI_and7, iI_and63, iI_shr3, iI_shr6, rd_I, ob, Option.some.injEq, exists_eq_left', exists_eq_left, true_and, and_true, fqI, fqJ, eq_self, true_or, or_true, bP_0, bP_0i, npP, bP_1i, bP_b, not_true_eq_false, not_false_eq_true, false_implies, true_implies, implies_true, Classical.not_not, and_self]
      refine ⟨fun u => by omega, fun _ => nx _ rfl⟩
    · subst I
      show wb_X12_isName_16 (wl_X12_isName_16 post k) h 92 (iI 0) (iI 18) post
      unfold wb_X12_isName_16
      simp (disch := omega) only [MSh.o0 M, MSh.p1 M, MSh.o1 M, MSh.l1 M, MSh.p6 M, MSh.o2 M, MSh.l2 M, MSh.p7 M, MSh.o3 M, MSh.l3 M, MSh.p8 M, MSh.o4 M, MSh.l4 M, MSh.p9 M, MSh.o5 M, MSh.l5 M, MSh.p10 M, MSh.o6 M, MSh.l6 M, MSh.p24 M, MSh.o7 M, MSh.l7 M, MSh.p25 M, MSh.o8 M, MSh.l8 M, MSh.p26 M, MSh.o9 M, MSh.l9 M, MSh.p32 M, MSh.o10 M, MSh.l10 M, MSh.p33 M, MSh.o11 M, MSh.l11 M, MSh.p35 M, MSh.o12 M, MSh.l12 M, MSh.p36 M, MSh.o13 M, MSh.l13 M, MSh.p37 M, MSh.o14 M, MSh.l14 M, MSh.p38 M, MSh.o15 M, MSh.l15 M, MSh.p39 M, MSh.o16 M, MSh.l16 M, MSh.p42 M, MSh.o17 M, MSh.l17 M, MSh.p43 M, MSh.o18 M, MSh.l18 M, MSh.p44 M, MSh.o19 M, MSh.l19 M, MSh.p45 M, MSh.o20 M, MSh.l20 M, MSh.p46 M, MSh.o21 M, MSh.l21 M, MSh.p47 M, MSh.o22 M, MSh.l22 M, MSh.p50 M, MSh.o23 M, MSh.l23 M, MSh.p51 M, MSh.o24 M, MSh.l24 M, MSh.p52 M, MSh.o25 M, MSh.l25 M, -Int.reduceToNat, -Int32.reduceToNatClampNeg, il0, il1, il2, il3, il4, il5, il6, il7, il8, il9, il10, il11, il12, il13, il14, il15, il16, il17, il18, il19, il20, il21, il22, il23, il24, il25, il26, il27, il28, il29, il30, il31, il32, il35, il36, il38, il40, il42, il43, il44, il45, il46, il47, il48, il49, il50, il51, il52, il57, il59, il60, il63, il64, il75, il80, il95, il96, il97, il98, il99, il100, il120, il122, il123, il127, il128, il135, il167, il175, il225, il249, il250, il255, il256, il360, il370, il384, il600, il700, il740, il900, il940, il1024, il1600, il4800, il64000, il125000, il262143, il1000000000, iI_toInt, iI_add, iI_sub, iI_mul, iI_neg, iI_lt, iI_le, iI_eq, iI_n, iI_in, iI_div, iI_mod, iI_shm, iI_and1, iI_and7, iI_and63, iI_shr3, iI_shr6, rd_I, ob, Option.some.injEq, exists_eq_left', exists_eq_left, true_and, and_true, fqI, fqJ, eq_self, true_or, or_true, bP_0, bP_0i, npP, bP_1i, bP_b, not_true_eq_false, not_false_eq_true, false_implies, true_implies, implies_true, Classical.not_not, and_self]
      exact ⟨fun _ => K, fun u => by omega⟩
  · obtain ⟨wj, lt, len⟩ := Q.wrd c
    unfold wb_X12_isName_13
    rw [show iI 1 = bP (∀ j : Int, 0 ≤ j → j < 0 → ¬ tkW T n m p = kmL.getD j.toNat []) from (bP_t fun j j0 j1 => by omega).symm]
    refine lf_for (W := fun k (b : Int32) i => wl_X12_isName_16 post k h 92 b (iI i)) (lo := 0) (hi := 18) (fun i b => b = bP (∀ j, 0 ≤ j → j < i → ¬ tkW T n m p = kmL.getD j.toNat [])) (by omega) (fun k b i i0 i1 I nx => ?_) (fun k b I => ?_) _ rfl
    · subst I
      show wb_X12_isName_16 (wl_X12_isName_16 post k) h 92 _ (iI i) post
      have km := kmL_ltr i0 i1
      have eq' : (aJ h 92 17 = aJ h 98 i.toNat) ↔ tkW T n m p = kmL.getD i.toNat [] := by
        rw [wj, W i i0 i1]; exact w8_z lt km.1 len km.2
      unfold wb_X12_isName_16 wb_X12_isName_44 wb_X12_isName_45
      simp (disch := omega) only [MSh.o0 M, MSh.p1 M, MSh.o1 M, MSh.l1 M, MSh.p6 M, MSh.o2 M, MSh.l2 M, MSh.p7 M, MSh.o3 M, MSh.l3 M, MSh.p8 M, MSh.o4 M, MSh.l4 M, MSh.p9 M, MSh.o5 M, MSh.l5 M, MSh.p10 M, MSh.o6 M, MSh.l6 M, MSh.p24 M, MSh.o7 M, MSh.l7 M, MSh.p25 M, MSh.o8 M, MSh.l8 M, MSh.p26 M, MSh.o9 M, MSh.l9 M, MSh.p32 M, MSh.o10 M, MSh.l10 M, MSh.p33 M, MSh.o11 M, MSh.l11 M, MSh.p35 M, MSh.o12 M, MSh.l12 M, MSh.p36 M, MSh.o13 M, MSh.l13 M, MSh.p37 M, MSh.o14 M, MSh.l14 M, MSh.p38 M, MSh.o15 M, MSh.l15 M, MSh.p39 M, MSh.o16 M, MSh.l16 M, MSh.p42 M, MSh.o17 M, MSh.l17 M, MSh.p43 M, MSh.o18 M, MSh.l18 M, MSh.p44 M, MSh.o19 M, MSh.l19 M, MSh.p45 M, MSh.o20 M, MSh.l20 M, MSh.p46 M, MSh.o21 M, MSh.l21 M, MSh.p47 M, MSh.o22 M, MSh.l22 M, MSh.p50 M, MSh.o23 M, MSh.l23 M, MSh.p51 M, MSh.o24 M, MSh.l24 M, MSh.p52 M, MSh.o25 M, MSh.l25 M, lgc2, eq', -Int.reduceToNat, -Int32.reduceToNatClampNeg, il0, il1, il2, il3, il4, il5, il6, il7, il8, il9, il10, il11, il12, il13, il14, il15, il16, il17, il18, il19, il20, il21, il22, il23, il24, il25, il26, il27, il28, il29, il30, il31, il32, il35, il36, il38, il40, il42, il43, il44, il45, il46, il47, il48, il49, il50, il51, il52, il57, il59, il60, il63, il64, il75, il80, il95, il96, il97, il98, il99, il100, il120, il122, il123, il127, il128, il135, il167, il175, il225, il249, il250, il255, il256, il360, il370, il384, il600, il700, il740, il900, il940, il1024, il1600, il4800, il64000, il125000, il262143, il1000000000, iI_toInt, iI_add, iI_sub, iI_mul, iI_neg, iI_lt, iI_le, iI_eq, iI_n, iI_in, iI_div, iI_mod, iI_shm, iI_and1, iI_and7, iI_and63, iI_shr3, iI_shr6, rd_I, ob, Option.some.injEq, exists_eq_left', exists_eq_left, true_and, and_true, fqI, fqJ, eq_self, true_or, or_true, bP_0, bP_0i, npP, bP_1i, bP_b, not_true_eq_false, not_false_eq_true, false_implies, true_implies, implies_true, Classical.not_not, and_self]
      refine ⟨fun u => by omega, fun _ => ⟨fun u => ?_, fun u => ⟨fun v => ?_, fun v => ?_⟩⟩⟩
      · exact nx _ (bP_f fun w => u fun j j0 j1 => w j j0 (by omega)).symm
      · exact nx _ (bP_f fun w => w i i0 (by omega) v).symm
      · refine nx _ (bP_t fun j j0 j1 => ?_).symm
        by_cases e : j = i
        · rw [e]; exact v
        · exact u j j0 (by omega)
    · subst I
      show wb_X12_isName_16 (wl_X12_isName_16 post k) h 92 _ (iI 18) post
      unfold wb_X12_isName_16
      simp (disch := omega) only [MSh.o0 M, MSh.p1 M, MSh.o1 M, MSh.l1 M, MSh.p6 M, MSh.o2 M, MSh.l2 M, MSh.p7 M, MSh.o3 M, MSh.l3 M, MSh.p8 M, MSh.o4 M, MSh.l4 M, MSh.p9 M, MSh.o5 M, MSh.l5 M, MSh.p10 M, MSh.o6 M, MSh.l6 M, MSh.p24 M, MSh.o7 M, MSh.l7 M, MSh.p25 M, MSh.o8 M, MSh.l8 M, MSh.p26 M, MSh.o9 M, MSh.l9 M, MSh.p32 M, MSh.o10 M, MSh.l10 M, MSh.p33 M, MSh.o11 M, MSh.l11 M, MSh.p35 M, MSh.o12 M, MSh.l12 M, MSh.p36 M, MSh.o13 M, MSh.l13 M, MSh.p37 M, MSh.o14 M, MSh.l14 M, MSh.p38 M, MSh.o15 M, MSh.l15 M, MSh.p39 M, MSh.o16 M, MSh.l16 M, MSh.p42 M, MSh.o17 M, MSh.l17 M, MSh.p43 M, MSh.o18 M, MSh.l18 M, MSh.p44 M, MSh.o19 M, MSh.l19 M, MSh.p45 M, MSh.o20 M, MSh.l20 M, MSh.p46 M, MSh.o21 M, MSh.l21 M, MSh.p47 M, MSh.o22 M, MSh.l22 M, MSh.p50 M, MSh.o23 M, MSh.l23 M, MSh.p51 M, MSh.o24 M, MSh.l24 M, MSh.p52 M, MSh.o25 M, MSh.l25 M, -Int.reduceToNat, -Int32.reduceToNatClampNeg, il0, il1, il2, il3, il4, il5, il6, il7, il8, il9, il10, il11, il12, il13, il14, il15, il16, il17, il18, il19, il20, il21, il22, il23, il24, il25, il26, il27, il28, il29, il30, il31, il32, il35, il36, il38, il40, il42, il43, il44, il45, il46, il47, il48, il49, il50, il51, il52, il57, il59, il60, il63, il64, il75, il80, il95, il96, il97, il98, il99, il100, il120, il122, il123, il127, il128, il135, il167, il175, il225, il249, il250, il255, il256, il360, il370, il384, il600, il700, il740, il900, il940, il1024, il1600, il4800, il64000, il125000, il262143, il1000000000, iI_toInt, iI_add, iI_sub, iI_mul, iI_neg, iI_lt, iI_le, iI_eq, iI_n, iI_in, iI_div, iI_mod, iI_shm, iI_and1, iI_and7, iI_and63, iI_shr3, iI_shr6, rd_I, ob, Option.some.injEq, exists_eq_left', exists_eq_left, true_and, and_true, fqI, fqJ, eq_self, true_or, or_true, bP_0, bP_0i, npP, bP_1i, bP_b, not_true_eq_false, not_false_eq_true, false_implies, true_implies, implies_true, Classical.not_not, and_self]
      refine ⟨fun _ => ?_, fun u => by omega⟩
      by_cases cn : kwI (tkW T n m p) = -1
      · rw [bP_t (kwI_no.mp cn)]; exact K1 c cn
      · rw [bP_f (fun u => cn (kwI_no.mpr u))]; exact K0 fun u => cn u.2
theorem m_find (Q : MTk T n m h p) (hk : tkK T n m p = 1) (hf : d = 0 ∨ d = 8) (hc : 0 ≤ c ∧ c ≤ 8) (nm : ∀ r, 0 ≤ r → r < c → aJ h 97 (d + r).toNat = Int64.ofInt (w8 (N r)) ∧ Ltr (N r) ∧ (N r).length ≤ 6) (K : post h (iI (fnd N c (tkW T n m p)))) : wp_X12_find h 92 (iI d) (iI c) post := by
  have M := Q.M
  obtain ⟨wj, lt, len⟩ := Q.wrd hk
  unfold wp_X12_find
  rw [show (0 : Int32) = iI 0 from rfl]
  unfold fnd at K
  refine (lp_fst (W := fun k i => wl_X12_find_2 post k h 92 (iI d) (iI c) (iI i)) (P := fun i => N i = tkW T n m p) (lo := 0) (hi := c) (E := fun v => post h (iI v)) (by omega) (fun _ => id) (fun k i i0 i1 => ?_) (fun k => ?_)).mpr (by rw [show c - 0 = c by omega]; exact K)
  · show wb_X12_find_2 (wl_X12_find_2 post k) h 92 (iI d) (iI c) (iI i) post ↔ _
    have ni := nm i i0 i1
    have eq' : (aJ h 97 (d + i).toNat = aJ h 92 17) ↔ N i = tkW T n m p := by
      rw [wj, ni.1]; exact w8_z ni.2.1 lt ni.2.2 len
    unfold wb_X12_find_2
    simp (disch := omega) only [MSh.o0 M, MSh.p1 M, MSh.o1 M, MSh.l1 M, MSh.p6 M, MSh.o2 M, MSh.l2 M, MSh.p7 M, MSh.o3 M, MSh.l3 M, MSh.p8 M, MSh.o4 M, MSh.l4 M, MSh.p9 M, MSh.o5 M, MSh.l5 M, MSh.p10 M, MSh.o6 M, MSh.l6 M, MSh.p24 M, MSh.o7 M, MSh.l7 M, MSh.p25 M, MSh.o8 M, MSh.l8 M, MSh.p26 M, MSh.o9 M, MSh.l9 M, MSh.p32 M, MSh.o10 M, MSh.l10 M, MSh.p33 M, MSh.o11 M, MSh.l11 M, MSh.p35 M, MSh.o12 M, MSh.l12 M, MSh.p36 M, MSh.o13 M, MSh.l13 M, MSh.p37 M, MSh.o14 M, MSh.l14 M, MSh.p38 M, MSh.o15 M, MSh.l15 M, MSh.p39 M, MSh.o16 M, MSh.l16 M, MSh.p42 M, MSh.o17 M, MSh.l17 M, MSh.p43 M, MSh.o18 M, MSh.l18 M, MSh.p44 M, MSh.o19 M, MSh.l19 M, MSh.p45 M, MSh.o20 M, MSh.l20 M, MSh.p46 M, MSh.o21 M, MSh.l21 M, MSh.p47 M, MSh.o22 M, MSh.l22 M, MSh.p50 M, MSh.o23 M, MSh.l23 M, MSh.p51 M, MSh.o24 M, MSh.l24 M, MSh.p52 M, MSh.o25 M, MSh.l25 M, lgc2, eq', -Int.reduceToNat, -Int32.reduceToNatClampNeg, il0, il1, il2, il3, il4, il5, il6, il7, il8, il9, il10, il11, il12, il13, il14, il15, il16, il17, il18, il19, il20, il21, il22, il23, il24, il25, il26, il27, il28, il29, il30, il31, il32, il35, il36, il38, il40, il42, il43, il44, il45, il46, il47, il48, il49, il50, il51, il52, il57, il59, il60, il63, il64, il75, il80, il95, il96, il97, il98, il99, il100, il120, il122, il123, il127, il128, il135, il167, il175, il225, il249, il250, il255, il256, il360, il370, il384, il600, il700, il740, il900, il940, il1024, il1600, il4800, il64000, il125000, il262143, il1000000000, iI_toInt, iI_add, iI_sub, iI_mul, iI_neg, iI_lt, iI_le, iI_eq, iI_n, iI_in, iI_div, iI_mod, iI_shm, iI_and1, iI_and7, iI_and63, iI_shr3, iI_shr6, rd_I, ob, Option.some.injEq, exists_eq_left', exists_eq_left, true_and, and_true, fqI, fqJ, eq_self, true_or, or_true, bP_0, bP_0i, npP, bP_1i, bP_b, not_true_eq_false, not_false_eq_true, false_implies, true_implies, implies_true, Classical.not_not, and_self, cP, cP', ite_n, ite_f]
  · show wb_X12_find_2 (wl_X12_find_2 post k) h 92 (iI d) (iI c) (iI c) post ↔ _
    unfold wb_X12_find_2
    simp (disch := omega) only [MSh.o0 M, MSh.p1 M, MSh.o1 M, MSh.l1 M, MSh.p6 M, MSh.o2 M, MSh.l2 M, MSh.p7 M, MSh.o3 M, MSh.l3 M, MSh.p8 M, MSh.o4 M, MSh.l4 M, MSh.p9 M, MSh.o5 M, MSh.l5 M, MSh.p10 M, MSh.o6 M, MSh.l6 M, MSh.p24 M, MSh.o7 M, MSh.l7 M, MSh.p25 M, MSh.o8 M, MSh.l8 M, MSh.p26 M, MSh.o9 M, MSh.l9 M, MSh.p32 M, MSh.o10 M, MSh.l10 M, MSh.p33 M, MSh.o11 M, MSh.l11 M, MSh.p35 M, MSh.o12 M, MSh.l12 M, MSh.p36 M, MSh.o13 M, MSh.l13 M, MSh.p37 M, MSh.o14 M, MSh.l14 M, MSh.p38 M, MSh.o15 M, MSh.l15 M, MSh.p39 M, MSh.o16 M, MSh.l16 M, MSh.p42 M, MSh.o17 M, MSh.l17 M, MSh.p43 M, MSh.o18 M, MSh.l18 M, MSh.p44 M, MSh.o19 M, MSh.l19 M, MSh.p45 M, MSh.o20 M, MSh.l20 M, MSh.p46 M, MSh.o21 M, MSh.l21 M, MSh.p47 M, MSh.o22 M, MSh.l22 M, MSh.p50 M, MSh.o23 M, MSh.l23 M, MSh.p51 M, MSh.o24 M, MSh.l24 M, MSh.p52 M, MSh.o25 M, MSh.l25 M, -Int.reduceToNat, -Int32.reduceToNatClampNeg, il0, il1, il2, il3, il4, il5, il6, il7, il8, il9, il10, il11, il12, il13, il14, il15, il16, il17, il18, il19, il20, il21, il22, il23, il24, il25, il26, il27, il28, il29, il30, il31, il32, il35, il36, il38, il40, il42, il43, il44, il45, il46, il47, il48, il49, il50, il51, il52, il57, il59, il60, il63, il64, il75, il80, il95, il96, il97, il98, il99, il100, il120, il122, il123, il127, il128, il135, il167, il175, il225, il249, il250, il255, il256, il360, il370, il384, il600, il700, il740, il900, il940, il1024, il1600, il4800, il64000, il125000, il262143, il1000000000, iI_toInt, iI_add, iI_sub, iI_mul, iI_neg, iI_lt, iI_le, iI_eq, iI_n, iI_in, iI_div, iI_mod, iI_shm, iI_and1, iI_and7, iI_and63, iI_shr3, iI_shr6, rd_I, ob, Option.some.injEq, exists_eq_left', exists_eq_left, true_and, and_true, fqI, fqJ, eq_self, true_or, or_true, bP_0, bP_0i, npP, bP_1i, bP_b, not_true_eq_false, not_false_eq_true, false_implies, true_implies, implies_true, Classical.not_not, and_self, cP, cP', ite_n, ite_t]
theorem fnd_b (hc : 0 ≤ c) : -1 ≤ fnd N c l ∧ fnd N c l < c ∨ fnd N c l = -1 := fnd_bd hc
theorem m_takesRaft (Q : MTk T n m h p) (W : RSV h) (hf : d = 0 ∨ d = 8) (hc : 0 ≤ c ∧ c ≤ 8) (hb : -1 ≤ but ∧ but ≤ 8) (nm : ∀ r, 0 ≤ r → r < c → aJ h 97 (d + r).toNat = Int64.ofInt (w8 (N r)) ∧ Ltr (N r) ∧ (N r).length ≤ 6) (K0 : ∀ h' k, pF h h' → ((¬ (tkK T n m p = 1 ∧ kwI (tkW T n m p) = -1) ∧ k = 1) ∨ ((tkK T n m p = 1 ∧ kwI (tkW T n m p) = -1) ∧ (fnd N c (tkW T n m p) = -1 ∨ fnd N c (tkW T n m p) = but) ∧ k = 3)) → rd h' 92 15 = k → rd h' 92 16 = tkA T n m p → post h' (iI 0)) (K1 : ∀ h', pS h h' → (tkK T n m p = 1 ∧ kwI (tkW T n m p) = -1) → fnd N c (tkW T n m p) ≠ -1 → fnd N c (tkW T n m p) ≠ but → MTk T n m h' (tkE T n m p) → rd h' 92 18 = fnd N c (tkW T n m p) → post h' (iI 1)) : wp_X12_takesRaft h 92 (iI d) (iI c) (iI but) post := by
  have M := Q.M
  have fb := fnd_b (N := N) (l := tkW T n m p) hc.1
  unfold wp_X12_takesRaft wb_X12_takesRaft_38
  simp (disch := omega) only [-Int.reduceToNat, -Int32.reduceToNatClampNeg, il0, il1, il2, il3, il4, il5, il6, il7, il8, il9, il10, il11, il12, il13, il14, il15, il16, il17, il18, il19, il20, il21, il22, il23, il24, il25, il26, il27, il28, il29, il30, il31, il32, il35, il36, il38, il40, il42, il43, il44, il45, il46, il47, il48, il49, il50, il51, il52, il57, il59, il60, il63, il64, il75, il80, il95, il96, il97, il98, il99, il100, il120, il122, il123, il127, il128, il135, il167, il175, il225, il249, il250, il255, il256, il360, il370, il384, il600, il700, il740, il900, il940, il1024, il1600, il4800, il64000, il125000, il262143, il1000000000, ob, Option.some.injEq, exists_eq_left', exists_eq_left, true_and, and_true, fqI, fqJ, eq_self, true_or, or_true, bP_0, bP_0i, npP, bP_1i, bP_b, not_true_eq_false, not_false_eq_true, false_implies, true_implies, implies_true, Classical.not_not, and_self]
  refine ⟨M.o0, m_isName Q W (fun k1 k2 => ⟨fun _ => ?_, fun u => absurd u i10⟩) (fun k0 => ⟨fun u => absurd rfl u, fun _ => ⟨M.o0, m_bad M Q.s12 (by omega) fun h' u e1 e2 => ?_⟩⟩)⟩
  · refine ⟨M.o0, m_find Q k1 hf hc nm ?_⟩
    refine ⟨M.o0, fun g1 e1 => ?_⟩
    obtain ⟨f1, r1⟩ := wI (i := 18) (by omega) (by omega) (by omega) e1
    have Q1 := Q.put f1 r1 (by omega)
    have M1 := Q1.M
    have q18 : rd g1 92 18 = fnd N c (tkW T n m p) := by rw [r1, updT_s]
    have u1 : pS h g1 := pS.one (by omega) f1 r1
    simp (disch := omega) only [MSh.o0 M1, MSh.p1 M1, MSh.o1 M1, MSh.l1 M1, MSh.p6 M1, MSh.o2 M1, MSh.l2 M1, MSh.p7 M1, MSh.o3 M1, MSh.l3 M1, MSh.p8 M1, MSh.o4 M1, MSh.l4 M1, MSh.p9 M1, MSh.o5 M1, MSh.l5 M1, MSh.p10 M1, MSh.o6 M1, MSh.l6 M1, MSh.p24 M1, MSh.o7 M1, MSh.l7 M1, MSh.p25 M1, MSh.o8 M1, MSh.l8 M1, MSh.p26 M1, MSh.o9 M1, MSh.l9 M1, MSh.p32 M1, MSh.o10 M1, MSh.l10 M1, MSh.p33 M1, MSh.o11 M1, MSh.l11 M1, MSh.p35 M1, MSh.o12 M1, MSh.l12 M1, MSh.p36 M1, MSh.o13 M1, MSh.l13 M1, MSh.p37 M1, MSh.o14 M1, MSh.l14 M1, MSh.p38 M1, MSh.o15 M1, MSh.l15 M1, MSh.p39 M1, MSh.o16 M1, MSh.l16 M1, MSh.p42 M1, MSh.o17 M1, MSh.l17 M1, MSh.p43 M1, MSh.o18 M1, MSh.l18 M1, MSh.p44 M1, MSh.o19 M1, MSh.l19 M1, MSh.p45 M1, MSh.o20 M1, MSh.l20 M1, MSh.p46 M1, MSh.o21 M1, MSh.l21 M1, MSh.p47 M1, MSh.o22 M1, MSh.l22 M1, MSh.p50 M1, MSh.o23 M1, MSh.l23 M1, MSh.p51 M1, MSh.o24 M1, MSh.l24 M1, MSh.p52 M1, MSh.o25 M1, MSh.l25 M1, fd0, fd1, fd2, fd3, fd4, fd5, fd6, fd7, fd8, fd9, fd10, fd11, fd12, fd13, fd14, fd15, fd16, fd17, fd18, fd19, fd20, fd21, fd22, fd23, fd24, fd25, fd26, fd27, fd28, fd29, fd30, fd31, fd32, fd33, fd34, fd35, fd36, fd37, fd38, fd39, fd40, fd41, fd42, fd43, fd44, fd45, fd46, fd47, fd48, fd49, fd50, fd51, fd52, q18, -Int.reduceToNat, -Int32.reduceToNatClampNeg, il0, il1, il2, il3, il4, il5, il6, il7, il8, il9, il10, il11, il12, il13, il14, il15, il16, il17, il18, il19, il20, il21, il22, il23, il24, il25, il26, il27, il28, il29, il30, il31, il32, il35, il36, il38, il40, il42, il43, il44, il45, il46, il47, il48, il49, il50, il51, il52, il57, il59, il60, il63, il64, il75, il80, il95, il96, il97, il98, il99, il100, il120, il122, il123, il127, il128, il135, il167, il175, il225, il249, il250, il255, il256, il360, il370, il384, il600, il700, il740, il900, il940, il1024, il1600, il4800, il64000, il125000, il262143, il1000000000, iI_toInt, iI_add, iI_sub, iI_mul, iI_neg, iI_lt, iI_le, iI_eq, iI_n, iI_in, iI_div, iI_mod, iI_shm, iI_and1, iI_and7, iI_and63, iI_shr3, iI_shr6, rd_I, ob, Option.some.injEq, exists_eq_left', exists_eq_left, true_and, and_true, fqI, fqJ, eq_self, true_or, or_true, bP_0, bP_0i, npP, bP_1i, bP_b, not_true_eq_false, not_false_eq_true, false_implies, true_implies, implies_true, Classical.not_not, and_self]
    have bad3 : (fnd N c (tkW T n m p) = -1 ∨ fnd N c (tkW T n m p) = but) → wp_X12_bad g1 92 (iI 3) fun hv7 iv8 => (iv8 = iI 0 ∨ iv8 = iI 1) ∧ post hv7 iv8 := fun c3 =>
      m_bad M1 Q1.s12 (by omega) fun h' u e1 e2 => ⟨Or.inl rfl, K0 h' 3 (u1.pf.trans u) (Or.inr ⟨⟨k1, k2⟩, c3, rfl⟩) e1 e2⟩
    refine ⟨fun v => bad3 (Or.inl (by omega)), fun v => ⟨fun v2 => Q1.nxt (by omega) fun g2 u2 X2 => ?_, fun v2 => bad3 (Or.inr v2)⟩⟩
    exact K1 g2 (u1.trans u2.ps) ⟨k1, k2⟩ (by omega) v2 X2 (by rw [u2.2 18 (by omega) (by omega) (by omega) (by omega) (by omega), q18])
  · exact ⟨Or.inl rfl, K0 h' 1 u (Or.inl ⟨k0, rfl⟩) e1 e2⟩
theorem LX.raft {ok : Int → Int → RT} (Q : LX T n m h0 h p s N td qb) (e : R = naS T n m p fun l q => iteP (fnd N c l = -1 ∨ fnd N c l = but) (bdR 3 (tkA T n m p)) (ok (fnd N c l) q)) (ec : s 2 = c) (hc : 0 ≤ c ∧ c ≤ 8) (hb : -1 ≤ but ∧ but ≤ 8) (KF : ∀ h', mF h0 h' → Flt h' R → post h' (iI 0)) (KS : ∀ h' v q, pS h h' → LX T n m h0 h' q s N td qb → rd h' 92 18 = v → 0 ≤ v → v < c → v ≠ but → R = ok v q → post h' (iI 1)) : wp_X12_takesRaft h 92 (iI 8) (iI c) (iI but) post := by
  unfold naS at e
  have fb := fnd_b (N := N) (l := tkW T n m p) hc.1
  refine m_takesRaft Q.X Q.rw (Or.inr rfl) hc hb (fun r r0 r1 => Q.nm r r0 (by omega)) (fun h' k u c e1 e2 => KF h' (Q.FF.trans u.mf) ?_) (fun h' u c1 c2 c3 X e1 => ?_)
  · rcases c with ⟨c1, c2⟩ | ⟨c1, c2, c3⟩
    · rw [ite_f c1] at e
      rw [e]; exact ⟨by show (1 : Int) ≠ 0; omega, by rw [e1, c2]; rfl, e2⟩
    · rw [ite_t c1] at e
      have e : R = iteP _ _ _ := e
      rw [ite_t c2] at e
      rw [e]; exact ⟨by show (3 : Int) ≠ 0; omega, by rw [e1, c3]; rfl, e2⟩
  · rw [ite_t c1] at e
    have e : R = iteP _ _ _ := e
    rw [ite_f (fun u => u.elim c2 c3)] at e
    exact KS h' _ _ u (Q.pf u X) e1 (by omega) (by omega) c3 e
theorem raS_1 {ok : Int → Int → RT} (hc : 0 ≤ c) : raS T n m N c p ok = naS T n m p fun l q => iteP (fnd N c l = -1 ∨ fnd N c l = -1) (bdR 3 (tkA T n m p)) (ok (fnd N c l) q) := by
  unfold raS
  congr 1
  funext l q
  exact ite_c ⟨Or.inl, fun u => u.elim id id⟩
theorem raS_2 {ok : Int → Int → RT} (hc : 0 ≤ c) (hb : 0 ≤ but) : (raS T n m N c p fun r q => iteP (but = r) (bdR 3 (tkA T n m p)) (ok r q)) = naS T n m p fun l q => iteP (fnd N c l = -1 ∨ fnd N c l = but) (bdR 3 (tkA T n m p)) (ok (fnd N c l) q) := by
  unfold raS
  congr 1
  funext l q
  by_cases c1 : fnd N c l = -1
  · rw [ite_t c1, ite_t (Or.inl c1)]
  · rw [ite_f c1]
    show iteP (but = fnd N c l) _ _ = _
    by_cases c2 : but = fnd N c l
    · rw [ite_t c2, ite_t (Or.inr c2.symm)]
    · rw [ite_f c2, ite_f (fun u => u.elim c1 (fun v => c2 v.symm))]
theorem LX.raft1 {ok : Int → Int → RT} (Q : LX T n m h0 h p s N td qb) (e : R = raS T n m N c p ok) (ec : s 2 = c) (hc : 0 ≤ c ∧ c ≤ 8) (KF : ∀ h', mF h0 h' → Flt h' R → post h' (iI 0)) (KS : ∀ h' v q, pS h h' → LX T n m h0 h' q s N td qb → rd h' 92 18 = v → 0 ≤ v → v < c → v ≠ -1 → R = ok v q → post h' (iI 1)) : wp_X12_takesRaft h 92 (iI 8) (iI c) (iI (-1)) post :=
  Q.raft (ok := ok) (e.trans (raS_1 hc.1)) ec hc (by omega) KF KS
theorem LX.raft2 {ok : Int → Int → RT} (Q : LX T n m h0 h p s N td qb) (e : R = raS T n m N c p fun r q => iteP (but = r) (bdR 3 (tkA T n m p)) (ok r q)) (ec : s 2 = c) (hc : 0 ≤ c ∧ c ≤ 8) (hb : 0 ≤ but ∧ but ≤ 8) (KF : ∀ h', mF h0 h' → Flt h' R → post h' (iI 0)) (KS : ∀ h' v q, pS h h' → LX T n m h0 h' q s N td qb → rd h' 92 18 = v → 0 ≤ v → v < c → v ≠ but → R = ok v q → post h' (iI 1)) : wp_X12_takesRaft h 92 (iI 8) (iI c) (iI but) post :=
  Q.raft (ok := ok) (e.trans (raS_2 hc.1 hb.1)) ec hc (by omega) KF KS
theorem LX.cell {ok : Int → Int → Int → Int → RT} (Q : LX T n m h0 h p s N td qb) (e : R = ceS T n m (s 0) (s 1) p ok) (h0b : 0 ≤ s 0 ∧ s 0 ≤ 8) (h1b : 0 ≤ s 1 ∧ s 1 ≤ 8) (KF : ∀ h', mF h0 h' → Flt h' R → post h' (iI 0)) (KS : ∀ h' x y q1 q, LX T n m h0 h' q s N td qb → rd h' 92 19 = x → rd h' 92 20 = y → 0 ≤ x → x < s 0 → 0 ≤ y → y < s 1 → R = ok x y q1 q → post h' (iI 1)) : wp_X12_takesCell h 92 post := by
  have M := Q.X.M
  have e0 := Q.hh 0 (by omega) (by omega)
  unfold ceS at e
  unfold wp_X12_takesCell
  simp (disch := omega) only [MSh.o0 M, MSh.p1 M, MSh.o1 M, MSh.l1 M, MSh.p6 M, MSh.o2 M, MSh.l2 M, MSh.p7 M, MSh.o3 M, MSh.l3 M, MSh.p8 M, MSh.o4 M, MSh.l4 M, MSh.p9 M, MSh.o5 M, MSh.l5 M, MSh.p10 M, MSh.o6 M, MSh.l6 M, MSh.p24 M, MSh.o7 M, MSh.l7 M, MSh.p25 M, MSh.o8 M, MSh.l8 M, MSh.p26 M, MSh.o9 M, MSh.l9 M, MSh.p32 M, MSh.o10 M, MSh.l10 M, MSh.p33 M, MSh.o11 M, MSh.l11 M, MSh.p35 M, MSh.o12 M, MSh.l12 M, MSh.p36 M, MSh.o13 M, MSh.l13 M, MSh.p37 M, MSh.o14 M, MSh.l14 M, MSh.p38 M, MSh.o15 M, MSh.l15 M, MSh.p39 M, MSh.o16 M, MSh.l16 M, MSh.p42 M, MSh.o17 M, MSh.l17 M, MSh.p43 M, MSh.o18 M, MSh.l18 M, MSh.p44 M, MSh.o19 M, MSh.l19 M, MSh.p45 M, MSh.o20 M, MSh.l20 M, MSh.p46 M, MSh.o21 M, MSh.l21 M, MSh.p47 M, MSh.o22 M, MSh.l22 M, MSh.p50 M, MSh.o23 M, MSh.l23 M, MSh.p51 M, MSh.o24 M, MSh.l24 M, MSh.p52 M, MSh.o25 M, MSh.l25 M, fd0, fd1, fd2, fd3, fd4, fd5, fd6, fd7, fd8, fd9, fd10, fd11, fd12, fd13, fd14, fd15, fd16, fd17, fd18, fd19, fd20, fd21, fd22, fd23, fd24, fd25, fd26, fd27, fd28, fd29, fd30, fd31, fd32, fd33, fd34, fd35, fd36, fd37, fd38, fd39, fd40, fd41, fd42, fd43, fd44, fd45, fd46, fd47, fd48, fd49, fd50, fd51, fd52, e0, -Int.reduceToNat, -Int32.reduceToNatClampNeg, il0, il1, il2, il3, il4, il5, il6, il7, il8, il9, il10, il11, il12, il13, il14, il15, il16, il17, il18, il19, il20, il21, il22, il23, il24, il25, il26, il27, il28, il29, il30, il31, il32, il35, il36, il38, il40, il42, il43, il44, il45, il46, il47, il48, il49, il50, il51, il52, il57, il59, il60, il63, il64, il75, il80, il95, il96, il97, il98, il99, il100, il120, il122, il123, il127, il128, il135, il167, il175, il225, il249, il250, il255, il256, il360, il370, il384, il600, il700, il740, il900, il940, il1024, il1600, il4800, il64000, il125000, il262143, il1000000000, iI_toInt, iI_add, iI_sub, iI_mul, iI_neg, iI_lt, iI_le, iI_eq, iI_n, iI_in, iI_div, iI_mod, iI_shm, iI_and1, iI_and7, iI_and63, iI_shr3, iI_shr6, rd_I, ob, Option.some.injEq, exists_eq_left', exists_eq_left, true_and, and_true, fqI, fqJ, eq_self, true_or, or_true, bP_0, bP_0i, npP, bP_1i, bP_b, not_true_eq_false, not_false_eq_true, false_implies, true_implies, implies_true, Classical.not_not, and_self]
  refine Q.takes e (by omega) (by omega) (fun g F E => ⟨fun u => absurd rfl u, fun _ => KF g F E⟩) fun g1 x q1 P1 Q1 eq1 r18 l1 l2 e1 => ⟨fun _ => ?_, fun u => absurd u i10⟩
  have M1 := Q1.X.M
  simp (disch := omega) only [MSh.o0 M1, MSh.p1 M1, MSh.o1 M1, MSh.l1 M1, MSh.p6 M1, MSh.o2 M1, MSh.l2 M1, MSh.p7 M1, MSh.o3 M1, MSh.l3 M1, MSh.p8 M1, MSh.o4 M1, MSh.l4 M1, MSh.p9 M1, MSh.o5 M1, MSh.l5 M1, MSh.p10 M1, MSh.o6 M1, MSh.l6 M1, MSh.p24 M1, MSh.o7 M1, MSh.l7 M1, MSh.p25 M1, MSh.o8 M1, MSh.l8 M1, MSh.p26 M1, MSh.o9 M1, MSh.l9 M1, MSh.p32 M1, MSh.o10 M1, MSh.l10 M1, MSh.p33 M1, MSh.o11 M1, MSh.l11 M1, MSh.p35 M1, MSh.o12 M1, MSh.l12 M1, MSh.p36 M1, MSh.o13 M1, MSh.l13 M1, MSh.p37 M1, MSh.o14 M1, MSh.l14 M1, MSh.p38 M1, MSh.o15 M1, MSh.l15 M1, MSh.p39 M1, MSh.o16 M1, MSh.l16 M1, MSh.p42 M1, MSh.o17 M1, MSh.l17 M1, MSh.p43 M1, MSh.o18 M1, MSh.l18 M1, MSh.p44 M1, MSh.o19 M1, MSh.l19 M1, MSh.p45 M1, MSh.o20 M1, MSh.l20 M1, MSh.p46 M1, MSh.o21 M1, MSh.l21 M1, MSh.p47 M1, MSh.o22 M1, MSh.l22 M1, MSh.p50 M1, MSh.o23 M1, MSh.l23 M1, MSh.p51 M1, MSh.o24 M1, MSh.l24 M1, MSh.p52 M1, MSh.o25 M1, MSh.l25 M1, fd0, fd1, fd2, fd3, fd4, fd5, fd6, fd7, fd8, fd9, fd10, fd11, fd12, fd13, fd14, fd15, fd16, fd17, fd18, fd19, fd20, fd21, fd22, fd23, fd24, fd25, fd26, fd27, fd28, fd29, fd30, fd31, fd32, fd33, fd34, fd35, fd36, fd37, fd38, fd39, fd40, fd41, fd42, fd43, fd44, fd45, fd46, fd47, fd48, fd49, fd50, fd51, fd52, r18, -Int.reduceToNat, -Int32.reduceToNatClampNeg, il0, il1, il2, il3, il4, il5, il6, il7, il8, il9, il10, il11, il12, il13, il14, il15, il16, il17, il18, il19, il20, il21, il22, il23, il24, il25, il26, il27, il28, il29, il30, il31, il32, il35, il36, il38, il40, il42, il43, il44, il45, il46, il47, il48, il49, il50, il51, il52, il57, il59, il60, il63, il64, il75, il80, il95, il96, il97, il98, il99, il100, il120, il122, il123, il127, il128, il135, il167, il175, il225, il249, il250, il255, il256, il360, il370, il384, il600, il700, il740, il900, il940, il1024, il1600, il4800, il64000, il125000, il262143, il1000000000, iI_toInt, iI_add, iI_sub, iI_mul, iI_neg, iI_lt, iI_le, iI_eq, iI_n, iI_in, iI_div, iI_mod, iI_shm, iI_and1, iI_and7, iI_and63, iI_shr3, iI_shr6, rd_I, ob, Option.some.injEq, exists_eq_left', exists_eq_left, true_and, and_true, fqI, fqJ, eq_self, true_or, or_true, bP_0, bP_0i, npP, bP_1i, bP_b, not_true_eq_false, not_false_eq_true, false_implies, true_implies, implies_true, Classical.not_not, and_self]
  intro g2 w2
  obtain ⟨f2, r2⟩ := wI (i := 19) (by omega) (by omega) (by omega) w2
  have Q2 := Q1.cp f2 r2 (by omega)
  have M2 := Q2.X.M
  have e2 := Q2.hh 1 (by omega) (by omega)
  simp (disch := omega) only [MSh.o0 M2, MSh.p1 M2, MSh.o1 M2, MSh.l1 M2, MSh.p6 M2, MSh.o2 M2, MSh.l2 M2, MSh.p7 M2, MSh.o3 M2, MSh.l3 M2, MSh.p8 M2, MSh.o4 M2, MSh.l4 M2, MSh.p9 M2, MSh.o5 M2, MSh.l5 M2, MSh.p10 M2, MSh.o6 M2, MSh.l6 M2, MSh.p24 M2, MSh.o7 M2, MSh.l7 M2, MSh.p25 M2, MSh.o8 M2, MSh.l8 M2, MSh.p26 M2, MSh.o9 M2, MSh.l9 M2, MSh.p32 M2, MSh.o10 M2, MSh.l10 M2, MSh.p33 M2, MSh.o11 M2, MSh.l11 M2, MSh.p35 M2, MSh.o12 M2, MSh.l12 M2, MSh.p36 M2, MSh.o13 M2, MSh.l13 M2, MSh.p37 M2, MSh.o14 M2, MSh.l14 M2, MSh.p38 M2, MSh.o15 M2, MSh.l15 M2, MSh.p39 M2, MSh.o16 M2, MSh.l16 M2, MSh.p42 M2, MSh.o17 M2, MSh.l17 M2, MSh.p43 M2, MSh.o18 M2, MSh.l18 M2, MSh.p44 M2, MSh.o19 M2, MSh.l19 M2, MSh.p45 M2, MSh.o20 M2, MSh.l20 M2, MSh.p46 M2, MSh.o21 M2, MSh.l21 M2, MSh.p47 M2, MSh.o22 M2, MSh.l22 M2, MSh.p50 M2, MSh.o23 M2, MSh.l23 M2, MSh.p51 M2, MSh.o24 M2, MSh.l24 M2, MSh.p52 M2, MSh.o25 M2, MSh.l25 M2, fd0, fd1, fd2, fd3, fd4, fd5, fd6, fd7, fd8, fd9, fd10, fd11, fd12, fd13, fd14, fd15, fd16, fd17, fd18, fd19, fd20, fd21, fd22, fd23, fd24, fd25, fd26, fd27, fd28, fd29, fd30, fd31, fd32, fd33, fd34, fd35, fd36, fd37, fd38, fd39, fd40, fd41, fd42, fd43, fd44, fd45, fd46, fd47, fd48, fd49, fd50, fd51, fd52, e2, -Int.reduceToNat, -Int32.reduceToNatClampNeg, il0, il1, il2, il3, il4, il5, il6, il7, il8, il9, il10, il11, il12, il13, il14, il15, il16, il17, il18, il19, il20, il21, il22, il23, il24, il25, il26, il27, il28, il29, il30, il31, il32, il35, il36, il38, il40, il42, il43, il44, il45, il46, il47, il48, il49, il50, il51, il52, il57, il59, il60, il63, il64, il75, il80, il95, il96, il97, il98, il99, il100, il120, il122, il123, il127, il128, il135, il167, il175, il225, il249, il250, il255, il256, il360, il370, il384, il600, il700, il740, il900, il940, il1024, il1600, il4800, il64000, il125000, il262143, il1000000000, iI_toInt, iI_add, iI_sub, iI_mul, iI_neg, iI_lt, iI_le, iI_eq, iI_n, iI_in, iI_div, iI_mod, iI_shm, iI_and1, iI_and7, iI_and63, iI_shr3, iI_shr6, rd_I, ob, Option.some.injEq, exists_eq_left', exists_eq_left, true_and, and_true, fqI, fqJ, eq_self, true_or, or_true, bP_0, bP_0i, npP, bP_1i, bP_b, not_true_eq_false, not_false_eq_true, false_implies, true_implies, implies_true, Classical.not_not, and_self]
  refine Q2.takes e1 (by omega) (by omega) (fun g F E => ⟨fun u => absurd rfl u, fun _ => KF g F E⟩) fun g3 y q3 P3 Q3 eq3 r18 l3 l4 e3 => ⟨fun _ => ?_, fun u => absurd u i10⟩
  have M3 := Q3.X.M
  simp (disch := omega) only [MSh.o0 M3, MSh.p1 M3, MSh.o1 M3, MSh.l1 M3, MSh.p6 M3, MSh.o2 M3, MSh.l2 M3, MSh.p7 M3, MSh.o3 M3, MSh.l3 M3, MSh.p8 M3, MSh.o4 M3, MSh.l4 M3, MSh.p9 M3, MSh.o5 M3, MSh.l5 M3, MSh.p10 M3, MSh.o6 M3, MSh.l6 M3, MSh.p24 M3, MSh.o7 M3, MSh.l7 M3, MSh.p25 M3, MSh.o8 M3, MSh.l8 M3, MSh.p26 M3, MSh.o9 M3, MSh.l9 M3, MSh.p32 M3, MSh.o10 M3, MSh.l10 M3, MSh.p33 M3, MSh.o11 M3, MSh.l11 M3, MSh.p35 M3, MSh.o12 M3, MSh.l12 M3, MSh.p36 M3, MSh.o13 M3, MSh.l13 M3, MSh.p37 M3, MSh.o14 M3, MSh.l14 M3, MSh.p38 M3, MSh.o15 M3, MSh.l15 M3, MSh.p39 M3, MSh.o16 M3, MSh.l16 M3, MSh.p42 M3, MSh.o17 M3, MSh.l17 M3, MSh.p43 M3, MSh.o18 M3, MSh.l18 M3, MSh.p44 M3, MSh.o19 M3, MSh.l19 M3, MSh.p45 M3, MSh.o20 M3, MSh.l20 M3, MSh.p46 M3, MSh.o21 M3, MSh.l21 M3, MSh.p47 M3, MSh.o22 M3, MSh.l22 M3, MSh.p50 M3, MSh.o23 M3, MSh.l23 M3, MSh.p51 M3, MSh.o24 M3, MSh.l24 M3, MSh.p52 M3, MSh.o25 M3, MSh.l25 M3, fd0, fd1, fd2, fd3, fd4, fd5, fd6, fd7, fd8, fd9, fd10, fd11, fd12, fd13, fd14, fd15, fd16, fd17, fd18, fd19, fd20, fd21, fd22, fd23, fd24, fd25, fd26, fd27, fd28, fd29, fd30, fd31, fd32, fd33, fd34, fd35, fd36, fd37, fd38, fd39, fd40, fd41, fd42, fd43, fd44, fd45, fd46, fd47, fd48, fd49, fd50, fd51, fd52, r18, -Int.reduceToNat, -Int32.reduceToNatClampNeg, il0, il1, il2, il3, il4, il5, il6, il7, il8, il9, il10, il11, il12, il13, il14, il15, il16, il17, il18, il19, il20, il21, il22, il23, il24, il25, il26, il27, il28, il29, il30, il31, il32, il35, il36, il38, il40, il42, il43, il44, il45, il46, il47, il48, il49, il50, il51, il52, il57, il59, il60, il63, il64, il75, il80, il95, il96, il97, il98, il99, il100, il120, il122, il123, il127, il128, il135, il167, il175, il225, il249, il250, il255, il256, il360, il370, il384, il600, il700, il740, il900, il940, il1024, il1600, il4800, il64000, il125000, il262143, il1000000000, iI_toInt, iI_add, iI_sub, iI_mul, iI_neg, iI_lt, iI_le, iI_eq, iI_n, iI_in, iI_div, iI_mod, iI_shm, iI_and1, iI_and7, iI_and63, iI_shr3, iI_shr6, rd_I, ob, Option.some.injEq, exists_eq_left', exists_eq_left, true_and, and_true, fqI, fqJ, eq_self, true_or, or_true, bP_0, bP_0i, npP, bP_1i, bP_b, not_true_eq_false, not_false_eq_true, false_implies, true_implies, implies_true, Classical.not_not, and_self]
  intro g4 w4
  obtain ⟨f4, r4⟩ := wI (i := 20) (by omega) (by omega) (by omega) w4
  exact KS g4 x y q1 q3 (Q3.cp f4 r4 (by omega)) (by rw [r4, updT_n (by omega), P3.2 19 (by decide), r2, updT_s]) (by rw [r4, updT_s]) l1 (by omega) l3 (by omega) e3
theorem m_isWord (Q : MTk T n m h p) (h0 : 0 ≤ i) (h1 : i < 18) (hz : z = Int64.ofInt (w8 (kwL.getD i.toNat []))) (K1 : wdI T n m p = i → post h (iI 1)) (K0 : wdI T n m p ≠ i → post h (iI 0)) : wp_X12_isWord h 92 z post := by
  have M := Q.M
  have b11 := rd_bd h 92 11
  unfold wdI at K1 K0
  unfold wp_X12_isWord
  simp (disch := omega) only [MSh.o0 M, MSh.p1 M, MSh.o1 M, MSh.l1 M, MSh.p6 M, MSh.o2 M, MSh.l2 M, MSh.p7 M, MSh.o3 M, MSh.l3 M, MSh.p8 M, MSh.o4 M, MSh.l4 M, MSh.p9 M, MSh.o5 M, MSh.l5 M, MSh.p10 M, MSh.o6 M, MSh.l6 M, MSh.p24 M, MSh.o7 M, MSh.l7 M, MSh.p25 M, MSh.o8 M, MSh.l8 M, MSh.p26 M, MSh.o9 M, MSh.l9 M, MSh.p32 M, MSh.o10 M, MSh.l10 M, MSh.p33 M, MSh.o11 M, MSh.l11 M, MSh.p35 M, MSh.o12 M, MSh.l12 M, MSh.p36 M, MSh.o13 M, MSh.l13 M, MSh.p37 M, MSh.o14 M, MSh.l14 M, MSh.p38 M, MSh.o15 M, MSh.l15 M, MSh.p39 M, MSh.o16 M, MSh.l16 M, MSh.p42 M, MSh.o17 M, MSh.l17 M, MSh.p43 M, MSh.o18 M, MSh.l18 M, MSh.p44 M, MSh.o19 M, MSh.l19 M, MSh.p45 M, MSh.o20 M, MSh.l20 M, MSh.p46 M, MSh.o21 M, MSh.l21 M, MSh.p47 M, MSh.o22 M, MSh.l22 M, MSh.p50 M, MSh.o23 M, MSh.l23 M, MSh.p51 M, MSh.o24 M, MSh.l24 M, MSh.p52 M, MSh.o25 M, MSh.l25 M, fd0, fd1, fd2, fd3, fd4, fd5, fd6, fd7, fd8, fd9, fd10, fd11, fd12, fd13, fd14, fd15, fd16, fd17, fd18, fd19, fd20, fd21, fd22, fd23, fd24, fd25, fd26, fd27, fd28, fd29, fd30, fd31, fd32, fd33, fd34, fd35, fd36, fd37, fd38, fd39, fd40, fd41, fd42, fd43, fd44, fd45, fd46, fd47, fd48, fd49, fd50, fd51, fd52, Q.k1, lgc2, -Int.reduceToNat, -Int32.reduceToNatClampNeg, il0, il1, il2, il3, il4, il5, il6, il7, il8, il9, il10, il11, il12, il13, il14, il15, il16, il17, il18, il19, il20, il21, il22, il23, il24, il25, il26, il27, il28, il29, il30, il31, il32, il35, il36, il38, il40, il42, il43, il44, il45, il46, il47, il48, il49, il50, il51, il52, il57, il59, il60, il63, il64, il75, il80, il95, il96, il97, il98, il99, il100, il120, il122, il123, il127, il128, il135, il167, il175, il225, il249, il250, il255, il256, il360, il370, il384, il600, il700, il740, il900, il940, il1024, il1600, il4800, il64000, il125000, il262143, il1000000000, iI_toInt, iI_add, iI_sub, iI_mul, iI_neg, iI_lt, iI_le, iI_eq, iI_n, iI_in, iI_div, iI_mod, iI_shm, iI_and1, iI_and7, iI_and63, iI_shr3, iI_shr6, rd_I, ob, Option.some.injEq, exists_eq_left', exists_eq_left, true_and, and_true, fqI, fqJ, eq_self, true_or, or_true, bP_0, bP_0i, npP, bP_1i, bP_b, not_true_eq_false, not_false_eq_true, false_implies, true_implies, implies_true, Classical.not_not, and_self]
  refine ⟨fun c => K0 (by rw [ite_f c]; omega), fun c => ?_⟩
  obtain ⟨wj, lt, len⟩ := Q.wrd c
  have kw := kwL_ltr h0 h1
  rw [ite_t c] at K1 K0
  have eq' : (aJ h 92 17 = z) ↔ kwI (tkW T n m p) = i := by
    rw [wj, hz, w8_z lt kw.1 len kw.2, kwI_is h0 h1]; exact eq_comm
  refine ⟨fun u => K0 fun v => u (eq'.mpr v), fun u => K1 (eq'.mp u)⟩
theorem m_side (Q : MTk T n m h p) (K1 : tkK T n m p = 1 → 11 ≤ kwI (tkW T n m p) → kwI (tkW T n m p) ≤ 14 → post h (iI (kwI (tkW T n m p) - 11))) (K0 : ¬ (tkK T n m p = 1 ∧ 11 ≤ kwI (tkW T n m p) ∧ kwI (tkW T n m p) ≤ 14) → post h (iI (-1))) : wp_X12_side h 92 post := by
  have M := Q.M
  have one : ∀ {i : Int}, 0 ≤ i → wdI T n m p = i → tkK T n m p = 1 ∧ kwI (tkW T n m p) = i := fun h0 u => by
    unfold wdI at u
    by_cases c : tkK T n m p = 1
    · rw [ite_t c] at u; exact ⟨c, u⟩
    · rw [ite_f c] at u; omega
  unfold wp_X12_side
  refine ⟨M.o0, m_isWord Q (i := 11) (by omega) (by omega) (by decide) (fun u => ⟨fun v => absurd v i10, fun _ => ?_⟩) fun u1 => ⟨fun _ => ⟨M.o0, m_isWord Q (i := 12) (by omega) (by omega) (by decide) (fun u => ⟨fun v => absurd v i10, fun _ => ?_⟩) fun u2 => ⟨fun _ => ⟨M.o0, m_isWord Q (i := 13) (by omega) (by omega) (by decide) (fun u => ⟨fun v => absurd v i10, fun _ => ?_⟩) fun u3 => ⟨fun _ => ⟨M.o0, m_isWord Q (i := 14) (by omega) (by omega) (by decide) (fun u => ⟨fun v => absurd v i10, fun _ => ?_⟩) fun u4 => ⟨fun _ => ?_, fun v => absurd rfl v⟩⟩, fun v => absurd rfl v⟩⟩, fun v => absurd rfl v⟩⟩, fun v => absurd rfl v⟩⟩
  · obtain ⟨k1, k2⟩ := one (by omega) u
    have := K1 k1 (by omega) (by omega)
    rw [k2] at this; exact this
  · obtain ⟨k1, k2⟩ := one (by omega) u
    have := K1 k1 (by omega) (by omega)
    rw [k2] at this; exact this
  · obtain ⟨k1, k2⟩ := one (by omega) u
    have := K1 k1 (by omega) (by omega)
    rw [k2] at this; exact this
  · obtain ⟨k1, k2⟩ := one (by omega) u
    have := K1 k1 (by omega) (by omega)
    rw [k2] at this; exact this
  · refine K0 fun u => ?_
    unfold wdI at u1 u2 u3 u4
    rw [ite_t u.1] at u1 u2 u3 u4
    omega
theorem LX.side {ok : Int → Int → RT} (Q : LX T n m h0 h p s N td qb) (e : R = siS T n m p ok) (KF : R = bdR 1 (tkA T n m p) → post h (iI (-1))) (KS : ∀ v, tkK T n m p = 1 → 0 ≤ v → v ≤ 3 → R = ok v (tkE T n m p) → post h (iI v)) : wp_X12_side h 92 post := by
  unfold siS at e
  refine m_side Q.X (fun c1 c2 c3 => ?_) (fun c => ?_)
  · rw [ite_t ⟨c1, c2, c3⟩] at e
    exact KS _ c1 (by omega) (by omega) e
  · rw [ite_f c] at e
    exact KF e
theorem LX.sign (Q : LX T n m h0 h p s N td qb) (KF : tkK T n m p ≠ 3 → ∀ h', mF h0 h' → rd h' 92 15 = 1 → rd h' 92 16 = tkA T n m p → post h' (iI 0)) (KS : tkK T n m p = 3 → ∀ h', pS h h' → LX T n m h0 h' (tkE T n m p) s N td qb → post h' (iI 1)) : wp_X12_sign h 92 (iI 59) post := by
  have M := Q.X.M
  have b11 := rd_bd h 92 11
  have b14 := rd_bd h 92 14
  unfold wp_X12_sign wp_X12_isSign
  simp (disch := omega) only [MSh.o0 M, MSh.p1 M, MSh.o1 M, MSh.l1 M, MSh.p6 M, MSh.o2 M, MSh.l2 M, MSh.p7 M, MSh.o3 M, MSh.l3 M, MSh.p8 M, MSh.o4 M, MSh.l4 M, MSh.p9 M, MSh.o5 M, MSh.l5 M, MSh.p10 M, MSh.o6 M, MSh.l6 M, MSh.p24 M, MSh.o7 M, MSh.l7 M, MSh.p25 M, MSh.o8 M, MSh.l8 M, MSh.p26 M, MSh.o9 M, MSh.l9 M, MSh.p32 M, MSh.o10 M, MSh.l10 M, MSh.p33 M, MSh.o11 M, MSh.l11 M, MSh.p35 M, MSh.o12 M, MSh.l12 M, MSh.p36 M, MSh.o13 M, MSh.l13 M, MSh.p37 M, MSh.o14 M, MSh.l14 M, MSh.p38 M, MSh.o15 M, MSh.l15 M, MSh.p39 M, MSh.o16 M, MSh.l16 M, MSh.p42 M, MSh.o17 M, MSh.l17 M, MSh.p43 M, MSh.o18 M, MSh.l18 M, MSh.p44 M, MSh.o19 M, MSh.l19 M, MSh.p45 M, MSh.o20 M, MSh.l20 M, MSh.p46 M, MSh.o21 M, MSh.l21 M, MSh.p47 M, MSh.o22 M, MSh.l22 M, MSh.p50 M, MSh.o23 M, MSh.l23 M, MSh.p51 M, MSh.o24 M, MSh.l24 M, MSh.p52 M, MSh.o25 M, MSh.l25 M, fd0, fd1, fd2, fd3, fd4, fd5, fd6, fd7, fd8, fd9, fd10, fd11, fd12, fd13, fd14, fd15, fd16, fd17, fd18, fd19, fd20, fd21, fd22, fd23, fd24, fd25, fd26, fd27, fd28, fd29, fd30, fd31, fd32, fd33, fd34, fd35, fd36, fd37, fd38, fd39, fd40, fd41, fd42, fd43, fd44, fd45, fd46, fd47, fd48, fd49, fd50, fd51, fd52, Q.X.k3, -Int.reduceToNat, -Int32.reduceToNatClampNeg, il0, il1, il2, il3, il4, il5, il6, il7, il8, il9, il10, il11, il12, il13, il14, il15, il16, il17, il18, il19, il20, il21, il22, il23, il24, il25, il26, il27, il28, il29, il30, il31, il32, il35, il36, il38, il40, il42, il43, il44, il45, il46, il47, il48, il49, il50, il51, il52, il57, il59, il60, il63, il64, il75, il80, il95, il96, il97, il98, il99, il100, il120, il122, il123, il127, il128, il135, il167, il175, il225, il249, il250, il255, il256, il360, il370, il384, il600, il700, il740, il900, il940, il1024, il1600, il4800, il64000, il125000, il262143, il1000000000, iI_toInt, iI_add, iI_sub, iI_mul, iI_neg, iI_lt, iI_le, iI_eq, iI_n, iI_in, iI_div, iI_mod, iI_shm, iI_and1, iI_and7, iI_and63, iI_shr3, iI_shr6, rd_I, ob, Option.some.injEq, exists_eq_left', exists_eq_left, true_and, and_true, fqI, fqJ, eq_self, true_or, or_true, bP_0, bP_0i, npP, bP_1i, bP_b, not_true_eq_false, not_false_eq_true, false_implies, true_implies, implies_true, Classical.not_not, and_self]
  have bad1 : tkK T n m p ≠ 3 → wp_X12_bad h 92 (iI 1) fun hv7 iv8 => (iv8 = iI 0 ∨ iv8 = iI 1) ∧ post hv7 iv8 := fun c =>
    m_bad M Q.X.s12 (by omega) fun h' u e1 e2 => ⟨Or.inl rfl, KF c h' (Q.FF.trans u.mf) e1 e2⟩
  refine ⟨fun c => ?_, fun c => ⟨fun u => absurd (Q.X.w3 c) u, fun _ => ?_⟩⟩
  · exact bad1 c
  · exact ⟨fun _ => Q.nxt (by omega) fun g u X => KS c g u.ps X, fun u => absurd u (by omega)⟩
end MPS
