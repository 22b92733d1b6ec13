/-! JUDGE, TOOMANY, INSTEAD in both -/
section PLANS
variable {h h1 h2 h' : AH} {i la fr qa ac tr t2 : Nat} {postV : AH → Prop} {post : AH → Int32 → Prop} {a b c d r x y n sp sq w hh u hr how who one k f q hw : Int} {s t z T : Int → Int} {J : JS} {v : Int × Int × Int} {tk : Prop}
theorem runF_snoc : ∀ (d : Nat) (j : Int) (J : JS), 0 ≤ j → runF s q (d + 1) j J = iteP ((runF s q d j J).1 = -1) (iteP (stW s q (runF s q d j J).2 (s (250 + 2 * (j + d))) (s (250 + 2 * (j + d) + 1)) = 0) (-1, stJ s q (runF s q d j J).2 (s (250 + 2 * (j + d))) (s (250 + 2 * (j + d) + 1))) (j + d, stJ s q (runF s q d j J).2 (s (250 + 2 * (j + d))) (s (250 + 2 * (j + d) + 1)))) (runF s q d j J) := by
  intro d
  induction d with
  | zero =>
    intro j J j0
    show runF s q 1 j J = iteP ((-1 : Int) = -1) _ _
    rw [ite_t rfl, show j + ((0 : Nat) : Int) = j by omega]
    rfl
  | succ d ih =>
    intro j J j0
    rw [runF]
    by_cases c : stW s q J (s (250 + 2 * j)) (s (250 + 2 * j + 1)) = 0
    · rw [ite_t c, ih (j + 1) _ (by omega)]
      have e : runF s q (d + 1) j J = runF s q d (j + 1) (stJ s q J (s (250 + 2 * j)) (s (250 + 2 * j + 1))) := by rw [runF, ite_t c]
      rw [e, show j + 1 + (d : Int) = j + ((d + 1 : Nat) : Int) by omega]
    · rw [ite_f c]
      have e : runF s q (d + 1) j J = (j, stJ s q J (s (250 + 2 * j)) (s (250 + 2 * j + 1))) := by rw [runF, ite_f c]
      rw [e, ite_f (by show ¬ j = -1; omega)]
noncomputable def pfx (s : Int → Int) (q b : Int) : Int × JS := runF s q b.toNat 0 (J0 s)
theorem pfx_s (hb : 0 ≤ b) : pfx s q (b + 1) = iteP ((pfx s q b).1 = -1) (iteP (stW s q (pfx s q b).2 (s (250 + 2 * b)) (s (250 + 2 * b + 1)) = 0) (-1, stJ s q (pfx s q b).2 (s (250 + 2 * b)) (s (250 + 2 * b + 1))) (b, stJ s q (pfx s q b).2 (s (250 + 2 * b)) (s (250 + 2 * b + 1)))) (pfx s q b) := by
  unfold pfx
  rw [show (b + 1).toNat = b.toNat + 1 by omega, runF_snoc _ _ _ (by omega), show (0 : Int) + (b.toNat : Int) = b by omega]
theorem pfx_bad (hb : 0 ≤ b) (h : (pfx s q b).1 ≠ -1) : ∀ m : Nat, (pfx s q (b + m)).1 ≠ -1 := by
  intro m
  induction m with
  | zero => rw [show b + ((0 : Nat) : Int) = b by omega]; exact h
  | succ m ih =>
    rw [show b + ((m + 1 : Nat) : Int) = b + m + 1 by omega, pfx_s (by omega), ite_f ih]
    exact ih
def tmP (s : Int → Int) (q b : Int) : Prop := (pfx s q b).1 = -1 ∧ (runF s q (s 249 - b - 1).toNat (b + 1) (pfx s q b).2).1 = -1
def inP (s : Int → Int) (q b hw : Int) : Prop := (pfx s q b).1 = -1 ∧ stW s q (pfx s q b).2 hw (s (250 + 2 * b + 1)) = 0 ∧ (runF s q (s 249 - b - 1).toNat (b + 1) (stJ s q (pfx s q b).2 hw (s (250 + 2 * b + 1)))).1 = -1
theorem rnM_tm (hb : 0 ≤ b) (hb2 : b < s 249) : (rnM s q b (-1) (s 249).toNat 0 (J0 s)).1 = -1 ↔ tmP s q b := by
  rw [rnM_at b.toNat (s 249).toNat 0 (J0 s) (by omega) (by omega) (by omega), show (s 249).toNat - b.toNat - 1 = (s 249 - b - 1).toNat by omega]
  unfold tmP pfx
  by_cases c : (runF s q b.toNat 0 (J0 s)).1 = -1
  · rw [ite_t c, ite_t (by omega)]
    exact ⟨fun p => ⟨c, p⟩, fun p => p.2⟩
  · rw [ite_f c]
    exact ⟨fun p => absurd p c, fun p => p.1⟩
theorem rnM_in (hb : 0 ≤ b) (hb2 : b < s 249) (hw0 : 0 ≤ hw) : (rnM s q b hw (s 249).toNat 0 (J0 s)).1 = -1 ↔ inP s q b hw := by
  rw [rnM_at b.toNat (s 249).toNat 0 (J0 s) (by omega) (by omega) (by omega), show (s 249).toNat - b.toNat - 1 = (s 249 - b - 1).toNat by omega]
  unfold inP pfx
  by_cases c : (runF s q b.toNat 0 (J0 s)).1 = -1
  · rw [ite_t c, ite_f (by omega)]
    by_cases c2 : stW s q (runF s q b.toNat 0 (J0 s)).2 hw (s (250 + 2 * b + 1)) = 0
    · rw [ite_t c2]
      exact ⟨fun p => ⟨c, c2, p⟩, fun p => p.2.2⟩
    · rw [ite_f c2]
      exact ⟨fun p => by have p : b = -1 := p; omega, fun p => absurd p.2.1 c2⟩
  · rw [ite_f c]
    exact ⟨fun p => absurd p c, fun p => p.1⟩
theorem rnM_lo (hG : GA s) (hb : -1 ≤ b ∧ b < s 249) (hw1 : -1 ≤ hw ∧ hw ≤ 4) (hB : 0 ≤ b → 0 ≤ hw → actOk s hw (s (250 + 2 * b + 1))) : -1 ≤ (rnM s q b hw (s 249).toNat 0 (J0 s)).1 ∧ (rnM s q b hw (s 249).toNat 0 (J0 s)).1 < 100 := by
  have bd := hG.bd
  by_cases c : b < 0
  · rw [rnM_off _ _ _ (Or.inl c)]
    have := (runF_e (q := q) hG (s 249).toNat 0 0 (J0 s) (J0_I hG) (by omega) (by omega) (by omega) (by omega)).2.1
    omega
  · rw [rnM_at b.toNat (s 249).toNat 0 (J0 s) (by omega) (by omega) (by omega)]
    obtain ⟨r1, r2, r3, -⟩ := runF_e (q := q) hG b.toNat 0 0 (J0 s) (J0_I hG) (by omega) (by omega) (by omega) (by omega)
    by_cases c1 : (runF s q b.toNat 0 (J0 s)).1 = -1
    case neg => rw [ite_f c1]; omega
    rw [ite_t c1]
    have jb := r3 c1
    by_cases c2 : hw < 0
    · rw [ite_t c2]
      have := (runF_e (q := q) hG ((s 249).toNat - b.toNat - 1) (b + 1) _ _ jb (by omega) (by omega) (by omega) (by omega)).2.1
      omega
    rw [ite_f c2]
    by_cases c3 : stW s q (runF s q b.toNat 0 (J0 s)).2 hw (s (250 + 2 * b + 1)) = 0
    · rw [ite_t c3]
      have j2 := stJ_I (q := q) hG (hB (by omega) (by omega)) jb (by omega) c3
      have := (runF_e (q := q) hG ((s 249).toNat - b.toNat - 1) (b + 1) _ _ j2 (by omega) (by omega) (by omega) (by omega)).2.1
      omega
    · rw [ite_f c3]
      exact ⟨by show (-1 : Int) ≤ b; omega, by show b < 100; omega⟩
/-- only the class's scratch cells change -/
theorem Inv.scr (I : Inv h i la fr qa ac) (g : Gr [60, 66, 68, 70, 72, 77, 81, 82, 84, 85, 87, 90] [61, 69, 73, 75, 83, 86, 88, 91] [(59, 0), (67, 0), (71, 0), (89, 0), (80, 0)] h h1) (eN : aN h1 = aN h) (eS : aS h1 = aS h) : Inv h1 i la fr qa ac ∧ rd h1 94 = rd h 94 ∧ Z24 h1 := by
  have hl := I.hl
  have lt := fun (a : Nat) (ha : a ≤ 118) => I.lt ha
  obtain ⟨c1, c2, c3, c4, c5, c6, c7, c8, c9, c10, c11, c12, c13, c14, c15, c16, c17, c18⟩ := I
  have r94 : rd h1 94 = rd h 94 := g.row (lt 94 (by omega)) (by decide)
  have j97 : aJ h1 97 = aJ h 97 := g.jow (lt 97 (by omega)) (by decide)
  have z1 : Z24 h1 := by
    unfold Z24 at c10 ⊢
    rw [g.row (lt 99 (by omega)) (by decide), g.row (lt 100 (by omega)) (by decide)]
    exact c10
  have q1 := c14.2.1.2
  have q2 := c14.2.2.2.2.1.2
  have qd := c14.2.2.2.2.2.2.2.2.2
  refine ⟨⟨c1.gr g, c2.gr g, g.ob c3, (g.len c3.2).trans c4, c5, (g.dyn (lt 2 (by omega)) (by decide)).trans c6, c7.gr g (by omega), ?_, ?_, z1, c11.gr ?_ ?_ ?_ ?_, c12.gr ?_ ?_, c13.gr ?_ ?_ ?_ ?_ ?_ ?_ ?_ ?_, c14.gr g c1 (by decide) (by decide) ?_ ?_ ?_ ?_, c15.gr ?_ ?_ ?_ ?_ ?_ ?_, c16.gr g c1 (by decide) (by decide) ?_ ?_ ?_ ?_ ⟨Or.inl rfl, Or.inl rfl⟩, c17.gr ?_ ?_ ?_, ?_⟩, r94, z1⟩
  · rw [r94, j97]
    exact c8.gr g (by omega) (Or.inl rfl) (by decide) (by decide) (fun j hj => by simp; omega) (fun j hj => by simp; omega) (by decide) (by decide) (by decide) (by decide) (by decide)
  · rw [r94]; exact c9
  all_goals first | (rw [g.row (lt _ (by decide)) (by decide)]; done) | exact g.row (lt _ (by decide)) (by decide) | exact g.jow (lt _ (by decide)) (by decide) | skip
  · simp
    omega
  · refine ⟨fun a ha => ?_, fun a ha => ?_⟩
    · simp at ha; omega
    · simp at ha; omega
  · unfold IvR at c18 ⊢
    rw [eN, eS, g.len q1, g.len q2]
    exact c18
theorem RJb.qt (q : RJb h h') (z : Z24 h') : Qt h h' := ⟨q.1.mono (by simp) (by simp) (by simp), fun j hj => q.2 j (by revert j; decide), z⟩
theorem MJ.zz (R : MJ h s J) (hz : ∀ j, j < 0 ∨ 24 ≤ j → J.1 j = 0) : Z24 h := by
  obtain ⟨-, -, e99, e100, -⟩ := R
  unfold Z24
  rw [e99, e100]
  exact ⟨fun j hj => hz j (by omega), fun j hj => if_neg (by omega)⟩
theorem rnM_z (hG : GA s) (hb : -1 ≤ b ∧ b < s 249) (hw1 : -1 ≤ hw ∧ hw ≤ 4) (hB : 0 ≤ b → 0 ≤ hw → actOk s hw (s (250 + 2 * b + 1))) : ∀ (d : Nat) (j n : Int) (J : JS), JI s n J → 0 ≤ n → 0 ≤ j → j + d ≤ s 249 → ∀ i, i < 0 ∨ 24 ≤ i → (rnM s q b hw d j J).2.1 i = 0 := by
  intro d
  induction d with
  | zero => intro j n J hJ _ _ _ i hi; exact hJ.2.2.2.1 i hi
  | succ d ih =>
    intro j n J hJ n0 j0 jd i hi
    rw [rnM]
    by_cases c : j = b ∧ hw < 0
    · rw [ite_t c]; exact ih (j + 1) n J hJ n0 (by omega) (by omega) i hi
    rw [ite_f c]
    have A : actOk s (if j = b then hw else s (250 + 2 * j)) (s (250 + 2 * j + 1)) := by
      by_cases cb : j = b
      · rw [if_pos cb]; subst cb; exact hB j0 (by omega)
      · rw [if_neg cb]; exact hG.act j0 (by omega)
    generalize (if j = b then hw else s (250 + 2 * j)) = how at A
    by_cases c2 : stW s q J how (s (250 + 2 * j + 1)) = 0
    · rw [ite_t c2]; exact ih (j + 1) (n + 1) _ (stJ_I hG A hJ n0 c2) (by omega) (by omega) (by omega) i hi
    · rw [ite_f c2]
      have c5 : ¬ how = 5 := fun p => c2 (by unfold stW; rw [ite_t p])
      show (stJ s q J how (s (250 + 2 * j + 1))).1 i = 0
      unfold stJ
      rw [ite_f c5, ite_f c2]
      exact hJ.2.2.2.1 i hi
theorem m_runQ (I : Inv h i la fr qa ac) (hq : 0 ≤ q ∧ q < 96) (hb : -1 ≤ b ∧ b < rd h 94 249) (hw1 : -1 ≤ hw ∧ hw ≤ 4) (hB : 0 ≤ b → 0 ≤ hw → actOk (rd h 94) hw (rd h 94 (250 + 2 * b + 1)))
    (k : ∀ h', Qt h h' → MJ h' (rd h 94) (rnM (rd h 94) q b hw (rd h 94 249).toNat 0 (J0 (rd h 94))).2 → post h' (iI (rnM (rd h 94) q b hw (rd h 94 249).toNat 0 (J0 (rd h 94))).1)) : wp_X12_run h 92 (iI q) (iI b) (iI hw) post := by
  have hG := I.ga
  have bd := hG.bd
  refine m_run I.m I.z hG hq (by omega) hw1 (fun p _ => hB p) fun h' q' R' => ?_
  exact k h' (q'.qt (R'.zz (rnM_z hG hb hw1 hB _ _ 0 _ (J0_I hG) (by omega) (by omega) (by omega)))) R'
noncomputable def tmV (s : Int → Int) (q : Int) : Int := iteP (0 ≤ q ∧ q < 96) (fstI (tmP s q) (s 249).toNat 0) (-2)
theorem mX_tooMany (I : Inv h i la fr qa ac) (hq1 : -2147483648 ≤ q) (hq2 : q < 2147483648) (k : ∀ h', Qt h h' → post h' (iI (tmV (rd h 94) q))) : wp_X12_tooMany h 92 (iI q) post := by
  unfold wp_X12_tooMany
  refine ⟨I.m.o0, fun h1 e1 => ?_⟩
  obtain ⟨I1, q1, es, -⟩ := I.thr e1
  rw [← es] at k
  unfold tmV at k
  simp (disch := omega) only [-Int.reduceToNat, -Int32.reduceToNatClampNeg, il0, il1, il2, il3, il4, il5, il6, il7, il8, il9, il10, il11, il12, il13, il14, il15, il16, il17, il18, il19, il20, il21, il22, il23, il24, il25, il26, il27, il28, il29, il30, il31, il32, il35, il36, il38, il40, il42, il43, il44, il45, il46, il47, il48, il49, il50, il51, il52, il57, il59, il60, il63, il64, il75, il80, il95, il96, il97, il98, il99, il100, il120, il122, il123, il127, il128, il135, il167, il175, il225, il249, il250, il255, il256, il360, il370, il384, il600, il700, il740, il900, il940, il1024, il1600, il4800, il64000, il125000, il262143, il1000000000, iI_toInt, iI_add, iI_sub, iI_mul, iI_neg, iI_lt, iI_le, iI_eq, iI_n, iI_in, iI_div, iI_mod, iI_shm, iI_and1, iI_and7, iI_and63, iI_shr3, iI_shr6, rd_I, ob, Option.some.injEq, exists_eq_left', exists_eq_left, true_and, and_true, fqI, fqJ, eq_self, true_or, or_true, bP_0, bP_0i, npP, bP_1i, bP_b, not_true_eq_false, not_false_eq_true, false_implies, true_implies, implies_true, Classical.not_not, and_self, cP, cP', ite_n, m_isQuarter]
  by_cases cq : 0 ≤ q ∧ q < 96
  case neg => rw [ite_f cq]; rw [ite_f cq] at k; exact k h1 q1
  rw [ite_t cq]; rw [ite_t cq] at k
  have hG := I1.ga
  have bd := hG.bd
  refine lf_for (W := fun n (g : AH) b => wl_X12_tooMany_17 post n g 92 (iI q) (iI b)) (lo := 0) (hi := rd h1 94 249) (fun b g => Inv g i la fr qa ac ∧ Qt h1 g ∧ rd g 94 = rd h1 94 ∧ ∀ j, 0 ≤ j → j < b → ¬ tmP (rd h1 94) q j) (by omega) ?_ ?_ h1 ⟨I1, ⟨(Fr.refl h1).mono (by simp) (by simp) (by simp), fun _ _ => rfl, I1.z⟩, rfl, fun j j1 j2 => by omega⟩
  · intro m g b b1 b2 hg kk
    obtain ⟨Ig, qg, eg, hno⟩ := hg
    have M := Ig.m
    show wb_X12_tooMany_17 (wl_X12_tooMany_17 post m) g 92 (iI q) (iI b) post
    unfold wb_X12_tooMany_17
    simp (disch := omega) only [MSh.o0 M, MSh.p1 M, MSh.o1 M, MSh.l1 M, MSh.p6 M, MSh.o2 M, MSh.l2 M, MSh.p7 M, MSh.o3 M, MSh.l3 M, MSh.p8 M, MSh.o4 M, MSh.l4 M, MSh.p9 M, MSh.o5 M, MSh.l5 M, MSh.p10 M, MSh.o6 M, MSh.l6 M, MSh.p24 M, MSh.o7 M, MSh.l7 M, MSh.p25 M, MSh.o8 M, MSh.l8 M, MSh.p26 M, MSh.o9 M, MSh.l9 M, MSh.p32 M, MSh.o10 M, MSh.l10 M, MSh.p33 M, MSh.o11 M, MSh.l11 M, MSh.p35 M, MSh.o12 M, MSh.l12 M, MSh.p36 M, MSh.o13 M, MSh.l13 M, MSh.p37 M, MSh.o14 M, MSh.l14 M, MSh.p38 M, MSh.o15 M, MSh.l15 M, MSh.p39 M, MSh.o16 M, MSh.l16 M, MSh.p42 M, MSh.o17 M, MSh.l17 M, MSh.p43 M, MSh.o18 M, MSh.l18 M, MSh.p44 M, MSh.o19 M, MSh.l19 M, MSh.p45 M, MSh.o20 M, MSh.l20 M, MSh.p46 M, MSh.o21 M, MSh.l21 M, MSh.p47 M, MSh.o22 M, MSh.l22 M, MSh.p50 M, MSh.o23 M, MSh.l23 M, MSh.p51 M, MSh.o24 M, MSh.l24 M, MSh.p52 M, MSh.o25 M, MSh.l25 M, eg, -Int.reduceToNat, -Int32.reduceToNatClampNeg, il0, il1, il2, il3, il4, il5, il6, il7, il8, il9, il10, il11, il12, il13, il14, il15, il16, il17, il18, il19, il20, il21, il22, il23, il24, il25, il26, il27, il28, il29, il30, il31, il32, il35, il36, il38, il40, il42, il43, il44, il45, il46, il47, il48, il49, il50, il51, il52, il57, il59, il60, il63, il64, il75, il80, il95, il96, il97, il98, il99, il100, il120, il122, il123, il127, il128, il135, il167, il175, il225, il249, il250, il255, il256, il360, il370, il384, il600, il700, il740, il900, il940, il1024, il1600, il4800, il64000, il125000, il262143, il1000000000, iI_toInt, iI_add, iI_sub, iI_mul, iI_neg, iI_lt, iI_le, iI_eq, iI_n, iI_in, iI_div, iI_mod, iI_shm, iI_and1, iI_and7, iI_and63, iI_shr3, iI_shr6, rd_I, ob, Option.some.injEq, exists_eq_left', exists_eq_left, true_and, and_true, fqI, fqJ, eq_self, true_or, or_true, bP_0, bP_0i, npP, bP_1i, bP_b, not_true_eq_false, not_false_eq_true, false_implies, true_implies, implies_true, Classical.not_not, and_self, cP, cP', ite_n, ite_f]
    refine m_runQ (hw := -1) Ig cq (by rw [eg]; omega) (by omega) (fun _ p => by omega) fun h2 q2 R2 => ?_
    rw [eg] at R2 ⊢
    have lo := rnM_lo (q := q) (b := b) (hw := -1) hG (by omega) (by omega) (fun _ p => by omega)
    have tm := rnM_tm (q := q) b1 b2
    simp (disch := omega) only [-Int.reduceToNat, -Int32.reduceToNatClampNeg, il0, il1, il2, il3, il4, il5, il6, il7, il8, il9, il10, il11, il12, il13, il14, il15, il16, il17, il18, il19, il20, il21, il22, il23, il24, il25, il26, il27, il28, il29, il30, il31, il32, il35, il36, il38, il40, il42, il43, il44, il45, il46, il47, il48, il49, il50, il51, il52, il57, il59, il60, il63, il64, il75, il80, il95, il96, il97, il98, il99, il100, il120, il122, il123, il127, il128, il135, il167, il175, il225, il249, il250, il255, il256, il360, il370, il384, il600, il700, il740, il900, il940, il1024, il1600, il4800, il64000, il125000, il262143, il1000000000, iI_toInt, iI_add, iI_sub, iI_mul, iI_neg, iI_lt, iI_le, iI_eq, iI_n, iI_in, iI_div, iI_mod, iI_shm, iI_and1, iI_and7, iI_and63, iI_shr3, iI_shr6, rd_I, ob, Option.some.injEq, exists_eq_left', exists_eq_left, true_and, and_true, fqI, fqJ, eq_self, true_or, or_true, bP_0, bP_0i, npP, bP_1i, bP_b, not_true_eq_false, not_false_eq_true, false_implies, true_implies, implies_true, Classical.not_not, and_self]
    by_cases c : tmP (rd h1 94) q b
    · have e := tm.mpr c
      rw [e, ite_f (by omega)]
      have := k h2 (q1.trans (qg.trans q2))
      rw [fstI_at _ 0 b b1 (by omega) c hno] at this
      exact this
    · have e : ¬ (rnM (rd h1 94) q b (-1) (rd h1 94 249).toNat 0 (J0 (rd h1 94))).1 = -1 := fun p => c (tm.mp p)
      rw [ite_t (by omega)]
      refine kk h2 ⟨Ig.qt q2 (Nat.le_refl _), qg.trans q2, by rw [q2.1.row (by decide), eg], fun j j1 j2 => ?_⟩
      by_cases cj : j = b
      · subst cj; exact c
      · exact hno j j1 (by omega)
  · intro m g hg
    obtain ⟨Ig, qg, eg, hno⟩ := hg
    have M := Ig.m
    show wb_X12_tooMany_17 (wl_X12_tooMany_17 post m) g 92 (iI q) (iI _) post
    unfold wb_X12_tooMany_17
    simp (disch := omega) only [MSh.o0 M, MSh.p1 M, MSh.o1 M, MSh.l1 M, MSh.p6 M, MSh.o2 M, MSh.l2 M, MSh.p7 M, MSh.o3 M, MSh.l3 M, MSh.p8 M, MSh.o4 M, MSh.l4 M, MSh.p9 M, MSh.o5 M, MSh.l5 M, MSh.p10 M, MSh.o6 M, MSh.l6 M, MSh.p24 M, MSh.o7 M, MSh.l7 M, MSh.p25 M, MSh.o8 M, MSh.l8 M, MSh.p26 M, MSh.o9 M, MSh.l9 M, MSh.p32 M, MSh.o10 M, MSh.l10 M, MSh.p33 M, MSh.o11 M, MSh.l11 M, MSh.p35 M, MSh.o12 M, MSh.l12 M, MSh.p36 M, MSh.o13 M, MSh.l13 M, MSh.p37 M, MSh.o14 M, MSh.l14 M, MSh.p38 M, MSh.o15 M, MSh.l15 M, MSh.p39 M, MSh.o16 M, MSh.l16 M, MSh.p42 M, MSh.o17 M, MSh.l17 M, MSh.p43 M, MSh.o18 M, MSh.l18 M, MSh.p44 M, MSh.o19 M, MSh.l19 M, MSh.p45 M, MSh.o20 M, MSh.l20 M, MSh.p46 M, MSh.o21 M, MSh.l21 M, MSh.p47 M, MSh.o22 M, MSh.l22 M, MSh.p50 M, MSh.o23 M, MSh.l23 M, MSh.p51 M, MSh.o24 M, MSh.l24 M, MSh.p52 M, MSh.o25 M, MSh.l25 M, eg, -Int.reduceToNat, -Int32.reduceToNatClampNeg, il0, il1, il2, il3, il4, il5, il6, il7, il8, il9, il10, il11, il12, il13, il14, il15, il16, il17, il18, il19, il20, il21, il22, il23, il24, il25, il26, il27, il28, il29, il30, il31, il32, il35, il36, il38, il40, il42, il43, il44, il45, il46, il47, il48, il49, il50, il51, il52, il57, il59, il60, il63, il64, il75, il80, il95, il96, il97, il98, il99, il100, il120, il122, il123, il127, il128, il135, il167, il175, il225, il249, il250, il255, il256, il360, il370, il384, il600, il700, il740, il900, il940, il1024, il1600, il4800, il64000, il125000, il262143, il1000000000, iI_toInt, iI_add, iI_sub, iI_mul, iI_neg, iI_lt, iI_le, iI_eq, iI_n, iI_in, iI_div, iI_mod, iI_shm, iI_and1, iI_and7, iI_and63, iI_shr3, iI_shr6, rd_I, ob, Option.some.injEq, exists_eq_left', exists_eq_left, true_and, and_true, fqI, fqJ, eq_self, true_or, or_true, bP_0, bP_0i, npP, bP_1i, bP_b, not_true_eq_false, not_false_eq_true, false_implies, true_implies, implies_true, Classical.not_not, and_self, cP, cP', ite_n, ite_T, ite_F, ite_t, ite_f]
    have := k g (q1.trans qg)
    rw [fstI_no _ 0 (fun j j1 j2 => hno j j1 (by omega))] at this
    exact this
theorem cX_tooMany (I : Inv h i la fr qa ac) (hq1 : -2147483648 ≤ q) (hq2 : q < 2147483648) (k : ∀ h', Inv h' i la fr qa ac → rd h' 94 = rd h 94 → post h' (iI (tmV (rd h 94) q))) : wp_X11_tooMany h 0 (iI q) post := by
  have C := I.cc
  have hG := I.ga
  have bd := hG.bd
  have T := I.core.2.2.2.2.2.2.1
  obtain ⟨S, hl, hp, H, L, P⟩ := id C
  have fin : ∀ h', Gr [66, 68, 70, 72] [69, 73] [(67, 0), (71, 0)] h h' → aN h' = aN h → aS h' = aS h → post h' (iI (tmV (rd h 94) q)) := fun h' g eN eS => by
    obtain ⟨I', e', -⟩ := I.scr (g.mono (by simp) (by simp) (by simp) (by simp [DynP])) eN eS
    exact k h' I' e'
  have k00 := k h I rfl
  clear k
  generalize hs : rd h 94 = s at *
  unfold tmV at fin k00
  unfold wp_X11_tooMany
  simp (disch := omega) only [-Int.reduceToNat, -Int32.reduceToNatClampNeg, il0, il1, il2, il3, il4, il5, il6, il7, il8, il9, il10, il11, il12, il13, il14, il15, il16, il17, il18, il19, il20, il21, il22, il23, il24, il25, il26, il27, il28, il29, il30, il31, il32, il35, il36, il38, il40, il42, il43, il44, il45, il46, il47, il48, il49, il50, il51, il52, il57, il59, il60, il63, il64, il75, il80, il95, il96, il97, il98, il99, il100, il120, il122, il123, il127, il128, il135, il167, il175, il225, il249, il250, il255, il256, il360, il370, il384, il600, il700, il740, il900, il940, il1024, il1600, il4800, il64000, il125000, il262143, il1000000000, iI_toInt, iI_add, iI_sub, iI_mul, iI_neg, iI_lt, iI_le, iI_eq, iI_n, iI_in, iI_div, iI_mod, iI_shm, iI_and1, iI_and7, iI_and63, iI_shr3, iI_shr6, rd_I, ob, Option.some.injEq, exists_eq_left', exists_eq_left, true_and, and_true, fqI, fqJ, eq_self, true_or, or_true, bP_0, bP_0i, npP, bP_1i, bP_b, not_true_eq_false, not_false_eq_true, false_implies, true_implies, implies_true, Classical.not_not, and_self, cP, cP', ite_n, c_isQuarter]
  by_cases cq : 0 ≤ q ∧ q < 96
  case neg => rw [ite_f cq]; rw [ite_f cq] at k00; exact k00
  rw [ite_t cq]; rw [ite_t cq] at fin
  simp (disch := omega) only [CSh.o0 S, CSh.o1 S, CSh.o2 S, CSh.o3 S, CSh.o26 S, CSh.o27 S, CSh.o29 S, CSh.o30 S, CSh.o31 S, CSh.o56 S, CSh.o57 S, CSh.o58 S, CSh.o62 S, CSh.o66 S, CSh.o70 S, CSh.o74 S, CSh.o75 S, CSh.o77 S, CSh.o79 S, CSh.o80 S, CSh.o81 S, CSh.o82 S, CSh.o83 S, CSh.o84 S, CSh.o85 S, CSh.o86 S, CSh.o87 S, CSh.o88 S, CSh.o53 S, CSh.o54 S, CSh.o55 S, CSh.o59 S, CSh.o60 S, CSh.o61 S, CSh.o63 S, CSh.o64 S, CSh.o65 S, CSh.o67 S, CSh.o68 S, CSh.o69 S, CSh.o71 S, CSh.o72 S, CSh.o73 S, CSh.o89 S, CSh.o90 S, CSh.o91 S, CSh.l1 S, CSh.l3 S, CSh.l27 S, CSh.l29 S, CSh.l30 S, CSh.l56 S, CSh.l57 S, CSh.l58 S, CSh.l75 S, CSh.l77 S, CSh.l79 S, CSh.l81 S, CSh.l82 S, CSh.l83 S, CSh.l84 S, CSh.l85 S, CSh.l86 S, CSh.l87 S, CSh.l88 S, CSh.l54 S, CSh.l55 S, CSh.l60 S, CSh.l61 S, CSh.l64 S, CSh.l65 S, CSh.l68 S, CSh.l69 S, CSh.l72 S, CSh.l73 S, CSh.l90 S, CSh.l91 S, CSh.p0_0 S, CSh.p0_3 S, CSh.p0_4 S, CSh.p0_5 S, CSh.p0_6 S, CSh.p0_7 S, CSh.p0_8 S, CSh.p0_9 S, CSh.p0_10 S, CSh.p0_14 S, CSh.p2_0 S, CSh.p26_0 S, CSh.p26_13 S, CSh.p26_14 S, CSh.p31_1 S, CSh.p31_3 S, CSh.p31_4 S, CSh.p62_0 S, CSh.p66_0 S, CSh.p70_0 S, CSh.p74_0 S, CSh.p74_1 S, CSh.p74_6 S, CSh.p74_7 S, CSh.p74_10 S, CSh.p80_1 S, CSh.p80_2 S, CSh.p80_3 S, CSh.p80_4 S, CSh.p80_5 S, CSh.p80_6 S, CSh.p80_7 S, CSh.p80_8 S, CSh.p53_1 S, CSh.p53_2 S, CSh.p59_1 S, CSh.p59_2 S, CSh.p63_1 S, CSh.p63_2 S, CSh.p67_1 S, CSh.p67_2 S, CSh.p71_1 S, CSh.p71_2 S, CSh.p89_1 S, CSh.p89_2 S, hp, -Int.reduceToNat, -Int32.reduceToNatClampNeg, il0, il1, il2, il3, il4, il5, il6, il7, il8, il9, il10, il11, il12, il13, il14, il15, il16, il17, il18, il19, il20, il21, il22, il23, il24, il25, il26, il27, il28, il29, il30, il31, il32, il35, il36, il38, il40, il42, il43, il44, il45, il46, il47, il48, il49, il50, il51, il52, il57, il59, il60, il63, il64, il75, il80, il95, il96, il97, il98, il99, il100, il120, il122, il123, il127, il128, il135, il167, il175, il225, il249, il250, il255, il256, il360, il370, il384, il600, il700, il740, il900, il940, il1024, il1600, il4800, il64000, il125000, il262143, il1000000000, ob, Option.some.injEq, exists_eq_left', exists_eq_left, true_and, and_true, fqI, fqJ, eq_self, true_or, or_true, bP_0, bP_0i, npP, bP_1i, bP_b, not_true_eq_false, not_false_eq_true, false_implies, true_implies, implies_true, Classical.not_not, and_self]
  refine c_beginT C (Or.inr (Or.inl rfl)) hG T cq fun ha ga na sa Ra => ?_
  refine lf_for (W := fun n (g : AH) b => wl_X11_tooMany_34 post n g 0 (iI b)) (lo := 0) (hi := s 249) (fun b g => Gr [66, 68, 70, 72] [69, 73] [(67, 0), (71, 0)] h g ∧ aN g = aN h ∧ aS g = aS h ∧ CC g la s ∧ TrR g 66 la s q (pfx s q b).2 ∧ (pfx s q b).1 = -1 ∧ JI s b (pfx s q b).2 ∧ ∀ j, 0 ≤ j → j < b → ¬ tmP s q j) (by omega) ?_ ?_ ha ⟨ga.mono (by simp) (by simp) (by simp) (by simp [DynP]), na, sa, C.gr ga (fun a ha => by simp at ha; omega) (fun a ha => by simp at ha; omega) (by decide), Ra, rfl, J0_I hG, fun j j1 j2 => by omega⟩
  · intro m g b b1 b2 hg kk
    obtain ⟨gg, nN, nS, Cg, Rg, p1, Jg, hno⟩ := hg
    obtain ⟨Sg, hlg, hpg, Hg, Lg, P1, P2⟩ := id Cg
    have P1 : rd g 31 2 = s 249 := P1
    show wb_X11_tooMany_34 (wl_X11_tooMany_34 post m) g 0 (iI b) post
    unfold wb_X11_tooMany_34
    simp (disch := omega) only [CSh.o0 Sg, CSh.o1 Sg, CSh.o2 Sg, CSh.o3 Sg, CSh.o26 Sg, CSh.o27 Sg, CSh.o29 Sg, CSh.o30 Sg, CSh.o31 Sg, CSh.o56 Sg, CSh.o57 Sg, CSh.o58 Sg, CSh.o62 Sg, CSh.o66 Sg, CSh.o70 Sg, CSh.o74 Sg, CSh.o75 Sg, CSh.o77 Sg, CSh.o79 Sg, CSh.o80 Sg, CSh.o81 Sg, CSh.o82 Sg, CSh.o83 Sg, CSh.o84 Sg, CSh.o85 Sg, CSh.o86 Sg, CSh.o87 Sg, CSh.o88 Sg, CSh.o53 Sg, CSh.o54 Sg, CSh.o55 Sg, CSh.o59 Sg, CSh.o60 Sg, CSh.o61 Sg, CSh.o63 Sg, CSh.o64 Sg, CSh.o65 Sg, CSh.o67 Sg, CSh.o68 Sg, CSh.o69 Sg, CSh.o71 Sg, CSh.o72 Sg, CSh.o73 Sg, CSh.o89 Sg, CSh.o90 Sg, CSh.o91 Sg, CSh.l1 Sg, CSh.l3 Sg, CSh.l27 Sg, CSh.l29 Sg, CSh.l30 Sg, CSh.l56 Sg, CSh.l57 Sg, CSh.l58 Sg, CSh.l75 Sg, CSh.l77 Sg, CSh.l79 Sg, CSh.l81 Sg, CSh.l82 Sg, CSh.l83 Sg, CSh.l84 Sg, CSh.l85 Sg, CSh.l86 Sg, CSh.l87 Sg, CSh.l88 Sg, CSh.l54 Sg, CSh.l55 Sg, CSh.l60 Sg, CSh.l61 Sg, CSh.l64 Sg, CSh.l65 Sg, CSh.l68 Sg, CSh.l69 Sg, CSh.l72 Sg, CSh.l73 Sg, CSh.l90 Sg, CSh.l91 Sg, CSh.p0_0 Sg, CSh.p0_3 Sg, CSh.p0_4 Sg, CSh.p0_5 Sg, CSh.p0_6 Sg, CSh.p0_7 Sg, CSh.p0_8 Sg, CSh.p0_9 Sg, CSh.p0_10 Sg, CSh.p0_14 Sg, CSh.p2_0 Sg, CSh.p26_0 Sg, CSh.p26_13 Sg, CSh.p26_14 Sg, CSh.p31_1 Sg, CSh.p31_3 Sg, CSh.p31_4 Sg, CSh.p62_0 Sg, CSh.p66_0 Sg, CSh.p70_0 Sg, CSh.p74_0 Sg, CSh.p74_1 Sg, CSh.p74_6 Sg, CSh.p74_7 Sg, CSh.p74_10 Sg, CSh.p80_1 Sg, CSh.p80_2 Sg, CSh.p80_3 Sg, CSh.p80_4 Sg, CSh.p80_5 Sg, CSh.p80_6 Sg, CSh.p80_7 Sg, CSh.p80_8 Sg, CSh.p53_1 Sg, CSh.p53_2 Sg, CSh.p59_1 Sg, CSh.p59_2 Sg, CSh.p63_1 Sg, CSh.p63_2 Sg, CSh.p67_1 Sg, CSh.p67_2 Sg, CSh.p71_1 Sg, CSh.p71_2 Sg, CSh.p89_1 Sg, CSh.p89_2 Sg, fd0, fd1, fd2, fd3, fd4, fd5, fd6, fd7, fd8, fd9, fd10, fd11, fd12, fd13, fd14, fd15, fd16, fd17, fd18, fd19, fd20, fd21, fd22, fd23, fd24, fd25, fd26, fd27, fd28, fd29, fd30, fd31, fd32, fd33, fd34, fd35, fd36, fd37, fd38, fd39, fd40, fd41, fd42, fd43, fd44, fd45, fd46, fd47, fd48, fd49, fd50, fd51, fd52, P1, -Int.reduceToNat, -Int32.reduceToNatClampNeg, il0, il1, il2, il3, il4, il5, il6, il7, il8, il9, il10, il11, il12, il13, il14, il15, il16, il17, il18, il19, il20, il21, il22, il23, il24, il25, il26, il27, il28, il29, il30, il31, il32, il35, il36, il38, il40, il42, il43, il44, il45, il46, il47, il48, il49, il50, il51, il52, il57, il59, il60, il63, il64, il75, il80, il95, il96, il97, il98, il99, il100, il120, il122, il123, il127, il128, il135, il167, il175, il225, il249, il250, il255, il256, il360, il370, il384, il600, il700, il740, il900, il940, il1024, il1600, il4800, il64000, il125000, il262143, il1000000000, iI_toInt, iI_add, iI_sub, iI_mul, iI_neg, iI_lt, iI_le, iI_eq, iI_n, iI_in, iI_div, iI_mod, iI_shm, iI_and1, iI_and7, iI_and63, iI_shr3, iI_shr6, rd_I, ob, Option.some.injEq, exists_eq_left', exists_eq_left, true_and, and_true, fqI, fqJ, eq_self, true_or, or_true, bP_0, bP_0i, npP, bP_1i, bP_b, not_true_eq_false, not_false_eq_true, false_implies, true_implies, implies_true, Classical.not_not, and_self, cP, cP', ite_n, ite_f]
    refine c_followT Cg Rg hG fun hb gb nb sb' R70 R66 => ?_
    have Cb := Cg.gr gb (fun a ha => by simp at ha; omega) (fun a ha => by simp at ha; omega) (by decide)
    have Sb := Cb.1
    simp (disch := omega) only [CSh.o0 Sb, CSh.o1 Sb, CSh.o2 Sb, CSh.o3 Sb, CSh.o26 Sb, CSh.o27 Sb, CSh.o29 Sb, CSh.o30 Sb, CSh.o31 Sb, CSh.o56 Sb, CSh.o57 Sb, CSh.o58 Sb, CSh.o62 Sb, CSh.o66 Sb, CSh.o70 Sb, CSh.o74 Sb, CSh.o75 Sb, CSh.o77 Sb, CSh.o79 Sb, CSh.o80 Sb, CSh.o81 Sb, CSh.o82 Sb, CSh.o83 Sb, CSh.o84 Sb, CSh.o85 Sb, CSh.o86 Sb, CSh.o87 Sb, CSh.o88 Sb, CSh.o53 Sb, CSh.o54 Sb, CSh.o55 Sb, CSh.o59 Sb, CSh.o60 Sb, CSh.o61 Sb, CSh.o63 Sb, CSh.o64 Sb, CSh.o65 Sb, CSh.o67 Sb, CSh.o68 Sb, CSh.o69 Sb, CSh.o71 Sb, CSh.o72 Sb, CSh.o73 Sb, CSh.o89 Sb, CSh.o90 Sb, CSh.o91 Sb, CSh.l1 Sb, CSh.l3 Sb, CSh.l27 Sb, CSh.l29 Sb, CSh.l30 Sb, CSh.l56 Sb, CSh.l57 Sb, CSh.l58 Sb, CSh.l75 Sb, CSh.l77 Sb, CSh.l79 Sb, CSh.l81 Sb, CSh.l82 Sb, CSh.l83 Sb, CSh.l84 Sb, CSh.l85 Sb, CSh.l86 Sb, CSh.l87 Sb, CSh.l88 Sb, CSh.l54 Sb, CSh.l55 Sb, CSh.l60 Sb, CSh.l61 Sb, CSh.l64 Sb, CSh.l65 Sb, CSh.l68 Sb, CSh.l69 Sb, CSh.l72 Sb, CSh.l73 Sb, CSh.l90 Sb, CSh.l91 Sb, CSh.p0_0 Sb, CSh.p0_3 Sb, CSh.p0_4 Sb, CSh.p0_5 Sb, CSh.p0_6 Sb, CSh.p0_7 Sb, CSh.p0_8 Sb, CSh.p0_9 Sb, CSh.p0_10 Sb, CSh.p0_14 Sb, CSh.p2_0 Sb, CSh.p26_0 Sb, CSh.p26_13 Sb, CSh.p26_14 Sb, CSh.p31_1 Sb, CSh.p31_3 Sb, CSh.p31_4 Sb, CSh.p62_0 Sb, CSh.p66_0 Sb, CSh.p70_0 Sb, CSh.p74_0 Sb, CSh.p74_1 Sb, CSh.p74_6 Sb, CSh.p74_7 Sb, CSh.p74_10 Sb, CSh.p80_1 Sb, CSh.p80_2 Sb, CSh.p80_3 Sb, CSh.p80_4 Sb, CSh.p80_5 Sb, CSh.p80_6 Sb, CSh.p80_7 Sb, CSh.p80_8 Sb, CSh.p53_1 Sb, CSh.p53_2 Sb, CSh.p59_1 Sb, CSh.p59_2 Sb, CSh.p63_1 Sb, CSh.p63_2 Sb, CSh.p67_1 Sb, CSh.p67_2 Sb, CSh.p71_1 Sb, CSh.p71_2 Sb, CSh.p89_1 Sb, CSh.p89_2 Sb, -Int.reduceToNat, -Int32.reduceToNatClampNeg, il0, il1, il2, il3, il4, il5, il6, il7, il8, il9, il10, il11, il12, il13, il14, il15, il16, il17, il18, il19, il20, il21, il22, il23, il24, il25, il26, il27, il28, il29, il30, il31, il32, il35, il36, il38, il40, il42, il43, il44, il45, il46, il47, il48, il49, il50, il51, il52, il57, il59, il60, il63, il64, il75, il80, il95, il96, il97, il98, il99, il100, il120, il122, il123, il127, il128, il135, il167, il175, il225, il249, il250, il255, il256, il360, il370, il384, il600, il700, il740, il900, il940, il1024, il1600, il4800, il64000, il125000, il262143, il1000000000, iI_toInt, iI_add, iI_sub, iI_mul, iI_neg, iI_lt, iI_le, iI_eq, iI_n, iI_in, iI_div, iI_mod, iI_shm, iI_and1, iI_and7, iI_and63, iI_shr3, iI_shr6, rd_I, ob, Option.some.injEq, exists_eq_left', exists_eq_left, true_and, and_true, fqI, fqJ, eq_self, true_or, or_true, bP_0, bP_0i, npP, bP_1i, bP_b, not_true_eq_false, not_false_eq_true, false_implies, true_implies, implies_true, Classical.not_not, and_self]
    refine c_runFrom hG (Or.inr (Or.inr rfl)) cq (s 249 - b - 1).toNat (b + 1) b (pfx s q b).2 hb Cb R70 Jg b1 (by omega) (by omega) (by omega) fun hc fc Rc => ?_
    have re := runF_e (q := q) hG (s 249 - b - 1).toNat (b + 1) b (pfx s q b).2 Jg b1 (by omega) (by omega) (by omega)
    have Cc := Cb.gr fc.gr (fun a ha => by simp at ha; omega) (fun a ha => by simp at ha; omega) List.not_mem_nil
    have G2 : Gr [66, 68, 70, 72] [69, 73] [(67, 0), (71, 0)] h hc := gg.trans ((gb.mono (by simp) (by simp) (by simp) (by simp [DynP])).trans (fc.gr.mono (by simp) (by simp) (by simp) (by simp [DynP])))
    have N2 : aN hc = aN h := by rw [fc.1, nb, nN]
    have S2 : aS hc = aS h := by rw [fc.2.1, sb', nS]
    simp (disch := omega) only [-Int.reduceToNat, -Int32.reduceToNatClampNeg, il0, il1, il2, il3, il4, il5, il6, il7, il8, il9, il10, il11, il12, il13, il14, il15, il16, il17, il18, il19, il20, il21, il22, il23, il24, il25, il26, il27, il28, il29, il30, il31, il32, il35, il36, il38, il40, il42, il43, il44, il45, il46, il47, il48, il49, il50, il51, il52, il57, il59, il60, il63, il64, il75, il80, il95, il96, il97, il98, il99, il100, il120, il122, il123, il127, il128, il135, il167, il175, il225, il249, il250, il255, il256, il360, il370, il384, il600, il700, il740, il900, il940, il1024, il1600, il4800, il64000, il125000, il262143, il1000000000, iI_toInt, iI_add, iI_sub, iI_mul, iI_neg, iI_lt, iI_le, iI_eq, iI_n, iI_in, iI_div, iI_mod, iI_shm, iI_and1, iI_and7, iI_and63, iI_shr3, iI_shr6, rd_I, ob, Option.some.injEq, exists_eq_left', exists_eq_left, true_and, and_true, fqI, fqJ, eq_self, true_or, or_true, bP_0, bP_0i, npP, bP_1i, bP_b, not_true_eq_false, not_false_eq_true, false_implies, true_implies, implies_true, Classical.not_not, and_self]
    by_cases c : (runF s q (s 249 - b - 1).toNat (b + 1) (pfx s q b).2).1 = -1
    · rw [ite_t c]
      have := fin hc G2 N2 S2
      rw [fstI_at _ 0 b b1 (by omega) ⟨p1, c⟩ hno] at this
      exact this
    rw [ite_f c]
    obtain ⟨Sc, hlc, hpc, Hc, Lc, Q1, Q2⟩ := id Cc
    obtain ⟨Qa, Qb⟩ := Q2 b b1 b2
    have Qa : rd hc 56 b = s (250 + 2 * b) := Qa
    have Qb : rd hc 57 b = s (250 + 2 * b + 1) := Qb
    simp (disch := omega) only [CSh.o0 Sc, CSh.o1 Sc, CSh.o2 Sc, CSh.o3 Sc, CSh.o26 Sc, CSh.o27 Sc, CSh.o29 Sc, CSh.o30 Sc, CSh.o31 Sc, CSh.o56 Sc, CSh.o57 Sc, CSh.o58 Sc, CSh.o62 Sc, CSh.o66 Sc, CSh.o70 Sc, CSh.o74 Sc, CSh.o75 Sc, CSh.o77 Sc, CSh.o79 Sc, CSh.o80 Sc, CSh.o81 Sc, CSh.o82 Sc, CSh.o83 Sc, CSh.o84 Sc, CSh.o85 Sc, CSh.o86 Sc, CSh.o87 Sc, CSh.o88 Sc, CSh.o53 Sc, CSh.o54 Sc, CSh.o55 Sc, CSh.o59 Sc, CSh.o60 Sc, CSh.o61 Sc, CSh.o63 Sc, CSh.o64 Sc, CSh.o65 Sc, CSh.o67 Sc, CSh.o68 Sc, CSh.o69 Sc, CSh.o71 Sc, CSh.o72 Sc, CSh.o73 Sc, CSh.o89 Sc, CSh.o90 Sc, CSh.o91 Sc, CSh.l1 Sc, CSh.l3 Sc, CSh.l27 Sc, CSh.l29 Sc, CSh.l30 Sc, CSh.l56 Sc, CSh.l57 Sc, CSh.l58 Sc, CSh.l75 Sc, CSh.l77 Sc, CSh.l79 Sc, CSh.l81 Sc, CSh.l82 Sc, CSh.l83 Sc, CSh.l84 Sc, CSh.l85 Sc, CSh.l86 Sc, CSh.l87 Sc, CSh.l88 Sc, CSh.l54 Sc, CSh.l55 Sc, CSh.l60 Sc, CSh.l61 Sc, CSh.l64 Sc, CSh.l65 Sc, CSh.l68 Sc, CSh.l69 Sc, CSh.l72 Sc, CSh.l73 Sc, CSh.l90 Sc, CSh.l91 Sc, CSh.p0_0 Sc, CSh.p0_3 Sc, CSh.p0_4 Sc, CSh.p0_5 Sc, CSh.p0_6 Sc, CSh.p0_7 Sc, CSh.p0_8 Sc, CSh.p0_9 Sc, CSh.p0_10 Sc, CSh.p0_14 Sc, CSh.p2_0 Sc, CSh.p26_0 Sc, CSh.p26_13 Sc, CSh.p26_14 Sc, CSh.p31_1 Sc, CSh.p31_3 Sc, CSh.p31_4 Sc, CSh.p62_0 Sc, CSh.p66_0 Sc, CSh.p70_0 Sc, CSh.p74_0 Sc, CSh.p74_1 Sc, CSh.p74_6 Sc, CSh.p74_7 Sc, CSh.p74_10 Sc, CSh.p80_1 Sc, CSh.p80_2 Sc, CSh.p80_3 Sc, CSh.p80_4 Sc, CSh.p80_5 Sc, CSh.p80_6 Sc, CSh.p80_7 Sc, CSh.p80_8 Sc, CSh.p53_1 Sc, CSh.p53_2 Sc, CSh.p59_1 Sc, CSh.p59_2 Sc, CSh.p63_1 Sc, CSh.p63_2 Sc, CSh.p67_1 Sc, CSh.p67_2 Sc, CSh.p71_1 Sc, CSh.p71_2 Sc, CSh.p89_1 Sc, CSh.p89_2 Sc, fd0, fd1, fd2, fd3, fd4, fd5, fd6, fd7, fd8, fd9, fd10, fd11, fd12, fd13, fd14, fd15, fd16, fd17, fd18, fd19, fd20, fd21, fd22, fd23, fd24, fd25, fd26, fd27, fd28, fd29, fd30, fd31, fd32, fd33, fd34, fd35, fd36, fd37, fd38, fd39, fd40, fd41, fd42, fd43, fd44, fd45, fd46, fd47, fd48, fd49, fd50, fd51, fd52, Qa, Qb, -Int.reduceToNat, -Int32.reduceToNatClampNeg, il0, il1, il2, il3, il4, il5, il6, il7, il8, il9, il10, il11, il12, il13, il14, il15, il16, il17, il18, il19, il20, il21, il22, il23, il24, il25, il26, il27, il28, il29, il30, il31, il32, il35, il36, il38, il40, il42, il43, il44, il45, il46, il47, il48, il49, il50, il51, il52, il57, il59, il60, il63, il64, il75, il80, il95, il96, il97, il98, il99, il100, il120, il122, il123, il127, il128, il135, il167, il175, il225, il249, il250, il255, il256, il360, il370, il384, il600, il700, il740, il900, il940, il1024, il1600, il4800, il64000, il125000, il262143, il1000000000, iI_toInt, iI_add, iI_sub, iI_mul, iI_neg, iI_lt, iI_le, iI_eq, iI_n, iI_in, iI_div, iI_mod, iI_shm, iI_and1, iI_and7, iI_and63, iI_shr3, iI_shr6, rd_I, ob, Option.some.injEq, exists_eq_left', exists_eq_left, true_and, and_true, fqI, fqJ, eq_self, true_or, or_true, bP_0, bP_0i, npP, bP_1i, bP_b, not_true_eq_false, not_false_eq_true, false_implies, true_implies, implies_true, Classical.not_not, and_self]
    have A := hG.act b1 b2
    have R66c : TrR hc 66 la s q (pfx s q b).2 := by
      obtain ⟨a1, a2, a3, a4, a5, a6⟩ := R66
      have nt : (66 : Nat) ∉ [(70 : Nat), 70 + 2] := by decide
      exact ⟨by rw [fc.row nt]; exact a1, by rw [fc.row nt]; exact a2, by rw [fc.row nt]; exact a3, by rw [fc.row nt]; exact a4, by rw [fc.row nt]; exact a5, TR.gr a6 fc.gr (by intro k hk; unfold DynP; simp [hk]) List.not_mem_nil (by decide) (by decide)⟩
    refine c_step Cc hG (Or.inr (Or.inl rfl)) R66c Jg (by omega) cq A fun hd fd Rd => ?_
    have G3 : Gr [66, 68, 70, 72] [69, 73] [(67, 0), (71, 0)] h hd := G2.trans (fd.gr.mono (by simp) (by simp) (by simp) (by simp [DynP]))
    have N3 : aN hd = aN h := by rw [fd.1, N2]
    have S3 : aS hd = aS h := by rw [fd.2.1, S2]
    have ps := pfx_s (s := s) (q := q) b1
    rw [ite_t p1] at ps
    rw [bP_0i]
    have hno' : ∀ j, 0 ≤ j → j < b + 1 → ¬ tmP s q j := fun j j1 j2 => by
      by_cases cj : j = b
      · subst cj; exact fun p => c p.2
      · exact hno j j1 (by omega)
    by_cases cw : stW s q (pfx s q b).2 (s (250 + 2 * b)) (s (250 + 2 * b + 1)) = 0
    · rw [ite_f (fun p => p cw)]
      rw [ite_t cw] at ps
      refine kk hd ⟨G3, N3, S3, Cc.gr fd.gr (fun a ha => by simp at ha; omega) (fun a ha => by simp at ha; omega) List.not_mem_nil, by rw [ps]; exact Rd, by rw [ps], by rw [ps]; exact stJ_I hG A Jg b1 cw, hno'⟩
    · rw [ite_t cw]
      rw [ite_f cw] at ps
      have bad := pfx_bad (s := s) (q := q) (b := b + 1) (by omega) (by rw [ps]; show b ≠ -1; omega)
      have := fin hd G3 N3 S3
      rw [fstI_no _ 0 (fun j j1 j2 => by
        by_cases cj : j < b + 1
        · exact hno' j j1 cj
        · intro p
          have := bad (j - (b + 1)).toNat
          rw [show b + 1 + ((j - (b + 1)).toNat : Int) = j by omega] at this
          exact this p.1)] at this
      exact this
  · intro m g hg
    obtain ⟨gg, nN, nS, Cg, Rg, p1, Jg, hno⟩ := hg
    obtain ⟨Sg, hlg, hpg, Hg, Lg, P1, P2⟩ := id Cg
    have P1 : rd g 31 2 = s 249 := P1
    show wb_X11_tooMany_34 (wl_X11_tooMany_34 post m) g 0 (iI (s 249)) post
    unfold wb_X11_tooMany_34
    simp (disch := omega) only [CSh.o0 Sg, CSh.o1 Sg, CSh.o2 Sg, CSh.o3 Sg, CSh.o26 Sg, CSh.o27 Sg, CSh.o29 Sg, CSh.o30 Sg, CSh.o31 Sg, CSh.o56 Sg, CSh.o57 Sg, CSh.o58 Sg, CSh.o62 Sg, CSh.o66 Sg, CSh.o70 Sg, CSh.o74 Sg, CSh.o75 Sg, CSh.o77 Sg, CSh.o79 Sg, CSh.o80 Sg, CSh.o81 Sg, CSh.o82 Sg, CSh.o83 Sg, CSh.o84 Sg, CSh.o85 Sg, CSh.o86 Sg, CSh.o87 Sg, CSh.o88 Sg, CSh.o53 Sg, CSh.o54 Sg, CSh.o55 Sg, CSh.o59 Sg, CSh.o60 Sg, CSh.o61 Sg, CSh.o63 Sg, CSh.o64 Sg, CSh.o65 Sg, CSh.o67 Sg, CSh.o68 Sg, CSh.o69 Sg, CSh.o71 Sg, CSh.o72 Sg, CSh.o73 Sg, CSh.o89 Sg, CSh.o90 Sg, CSh.o91 Sg, CSh.l1 Sg, CSh.l3 Sg, CSh.l27 Sg, CSh.l29 Sg, CSh.l30 Sg, CSh.l56 Sg, CSh.l57 Sg, CSh.l58 Sg, CSh.l75 Sg, CSh.l77 Sg, CSh.l79 Sg, CSh.l81 Sg, CSh.l82 Sg, CSh.l83 Sg, CSh.l84 Sg, CSh.l85 Sg, CSh.l86 Sg, CSh.l87 Sg, CSh.l88 Sg, CSh.l54 Sg, CSh.l55 Sg, CSh.l60 Sg, CSh.l61 Sg, CSh.l64 Sg, CSh.l65 Sg, CSh.l68 Sg, CSh.l69 Sg, CSh.l72 Sg, CSh.l73 Sg, CSh.l90 Sg, CSh.l91 Sg, CSh.p0_0 Sg, CSh.p0_3 Sg, CSh.p0_4 Sg, CSh.p0_5 Sg, CSh.p0_6 Sg, CSh.p0_7 Sg, CSh.p0_8 Sg, CSh.p0_9 Sg, CSh.p0_10 Sg, CSh.p0_14 Sg, CSh.p2_0 Sg, CSh.p26_0 Sg, CSh.p26_13 Sg, CSh.p26_14 Sg, CSh.p31_1 Sg, CSh.p31_3 Sg, CSh.p31_4 Sg, CSh.p62_0 Sg, CSh.p66_0 Sg, CSh.p70_0 Sg, CSh.p74_0 Sg, CSh.p74_1 Sg, CSh.p74_6 Sg, CSh.p74_7 Sg, CSh.p74_10 Sg, CSh.p80_1 Sg, CSh.p80_2 Sg, CSh.p80_3 Sg, CSh.p80_4 Sg, CSh.p80_5 Sg, CSh.p80_6 Sg, CSh.p80_7 Sg, CSh.p80_8 Sg, CSh.p53_1 Sg, CSh.p53_2 Sg, CSh.p59_1 Sg, CSh.p59_2 Sg, CSh.p63_1 Sg, CSh.p63_2 Sg, CSh.p67_1 Sg, CSh.p67_2 Sg, CSh.p71_1 Sg, CSh.p71_2 Sg, CSh.p89_1 Sg, CSh.p89_2 Sg, fd0, fd1, fd2, fd3, fd4, fd5, fd6, fd7, fd8, fd9, fd10, fd11, fd12, fd13, fd14, fd15, fd16, fd17, fd18, fd19, fd20, fd21, fd22, fd23, fd24, fd25, fd26, fd27, fd28, fd29, fd30, fd31, fd32, fd33, fd34, fd35, fd36, fd37, fd38, fd39, fd40, fd41, fd42, fd43, fd44, fd45, fd46, fd47, fd48, fd49, fd50, fd51, fd52, P1, -Int.reduceToNat, -Int32.reduceToNatClampNeg, il0, il1, il2, il3, il4, il5, il6, il7, il8, il9, il10, il11, il12, il13, il14, il15, il16, il17, il18, il19, il20, il21, il22, il23, il24, il25, il26, il27, il28, il29, il30, il31, il32, il35, il36, il38, il40, il42, il43, il44, il45, il46, il47, il48, il49, il50, il51, il52, il57, il59, il60, il63, il64, il75, il80, il95, il96, il97, il98, il99, il100, il120, il122, il123, il127, il128, il135, il167, il175, il225, il249, il250, il255, il256, il360, il370, il384, il600, il700, il740, il900, il940, il1024, il1600, il4800, il64000, il125000, il262143, il1000000000, iI_toInt, iI_add, iI_sub, iI_mul, iI_neg, iI_lt, iI_le, iI_eq, iI_n, iI_in, iI_div, iI_mod, iI_shm, iI_and1, iI_and7, iI_and63, iI_shr3, iI_shr6, rd_I, ob, Option.some.injEq, exists_eq_left', exists_eq_left, true_and, and_true, fqI, fqJ, eq_self, true_or, or_true, bP_0, bP_0i, npP, bP_1i, bP_b, not_true_eq_false, not_false_eq_true, false_implies, true_implies, implies_true, Classical.not_not, and_self, cP, cP', ite_n, ite_T, ite_F, ite_t, ite_f]
    have := fin g gg nN nS
    rw [fstI_no _ 0 (fun j j1 j2 => hno j j1 (by omega))] at this
    exact this
noncomputable def inQ (s : Int → Int) (q b : Int) : Int := iteP (s (250 + 2 * b) = 5) (-1) (fstI (fun hw => hw ≠ s (250 + 2 * b) ∧ inP s q b hw) 5 0)
noncomputable def inB (s : Int → Int) (q : Int) : Int := fstI (fun b => inQ s q b ≠ -1) (s 249).toNat 0
noncomputable def inV (s : Int → Int) (q : Int) : Int := iteP (0 ≤ q ∧ q < 96) (iteP (inB s q = -1) (-1) (10 * inB s q + inQ s q (inB s q))) (-2)
theorem inV_no (cq : 0 ≤ q ∧ q < 96) (h : ∀ j, 0 ≤ j → j < s 249 → inQ s q j = -1) : inV s q = -1 := by
  unfold inV
  rw [ite_t cq]
  have : inB s q = -1 := fstI_no _ 0 fun j j1 j2 p => p (h j j1 (by omega))
  rw [ite_t this]
theorem inV_at (cq : 0 ≤ q ∧ q < 96) (b1 : 0 ≤ b) (b2 : b < s 249) (h : ∀ j, 0 ≤ j → j < b → inQ s q j = -1) (c5 : ¬ s (250 + 2 * b) = 5) (w0 : 0 ≤ w) (w5 : w < 5) (hn : ∀ j, 0 ≤ j → j < w → ¬ (j ≠ s (250 + 2 * b) ∧ inP s q b j)) (hp : w ≠ s (250 + 2 * b) ∧ inP s q b w) : inV s q = 10 * b + w := by
  have e : inQ s q b = w := by
    unfold inQ
    rw [ite_f c5]
    exact fstI_at _ 0 w w0 (by omega) hp hn
  have eB : inB s q = b := fstI_at _ 0 b b1 (by omega) (by rw [e]; omega) (fun j j1 j2 p => p (h j j1 j2))
  unfold inV
  rw [ite_t cq, eB, e, ite_f (by omega)]
theorem mX_instead (I : Inv h i la fr qa ac) (hq1 : -2147483648 ≤ q) (hq2 : q < 2147483648) (k : ∀ h', Qt h h' → post h' (iI (inV (rd h 94) q))) : wp_X12_instead h 92 (iI q) post := by
  unfold wp_X12_instead
  refine ⟨I.m.o0, fun h1 e1 => ?_⟩
  obtain ⟨I1, q1, es, -⟩ := I.thr e1
  rw [← es] at k
  simp (disch := omega) only [-Int.reduceToNat, -Int32.reduceToNatClampNeg, il0, il1, il2, il3, il4, il5, il6, il7, il8, il9, il10, il11, il12, il13, il14, il15, il16, il17, il18, il19, il20, il21, il22, il23, il24, il25, il26, il27, il28, il29, il30, il31, il32, il35, il36, il38, il40, il42, il43, il44, il45, il46, il47, il48, il49, il50, il51, il52, il57, il59, il60, il63, il64, il75, il80, il95, il96, il97, il98, il99, il100, il120, il122, il123, il127, il128, il135, il167, il175, il225, il249, il250, il255, il256, il360, il370, il384, il600, il700, il740, il900, il940, il1024, il1600, il4800, il64000, il125000, il262143, il1000000000, iI_toInt, iI_add, iI_sub, iI_mul, iI_neg, iI_lt, iI_le, iI_eq, iI_n, iI_in, iI_div, iI_mod, iI_shm, iI_and1, iI_and7, iI_and63, iI_shr3, iI_shr6, rd_I, ob, Option.some.injEq, exists_eq_left', exists_eq_left, true_and, and_true, fqI, fqJ, eq_self, true_or, or_true, bP_0, bP_0i, npP, bP_1i, bP_b, not_true_eq_false, not_false_eq_true, false_implies, true_implies, implies_true, Classical.not_not, and_self, cP, cP', ite_n, m_isQuarter]
  by_cases cq : 0 ≤ q ∧ q < 96
  case neg =>
    rw [ite_f cq]
    have := k h1 q1
    unfold inV at this
    rw [ite_f cq] at this
    exact this
  rw [ite_t cq]
  have hG := I1.ga
  have bd := hG.bd
  refine lf_for (W := fun n (g : AH) b => wl_X12_instead_17 post n g 92 (iI q) (iI b)) (lo := 0) (hi := rd h1 94 249) (fun b g => Inv g i la fr qa ac ∧ Qt h1 g ∧ rd g 94 = rd h1 94 ∧ ∀ j, 0 ≤ j → j < b → inQ (rd h1 94) q j = -1) (by omega) ?_ ?_ h1 ⟨I1, ⟨(Fr.refl h1).mono (by simp) (by simp) (by simp), fun _ _ => rfl, I1.z⟩, rfl, fun j j1 j2 => by omega⟩
  · intro m g b b1 b2 hg kk
    obtain ⟨Ig, qg, eg, hno⟩ := hg
    have M := Ig.m
    have sbb := hG.sb (250 + 2 * b) (by omega) (by omega)
    have A := hG.act b1 b2
    show wb_X12_instead_17 (wl_X12_instead_17 post m) g 92 (iI q) (iI b) post
    unfold wb_X12_instead_17
    simp (disch := omega) only [MSh.o0 M, MSh.p1 M, MSh.o1 M, MSh.l1 M, MSh.p6 M, MSh.o2 M, MSh.l2 M, MSh.p7 M, MSh.o3 M, MSh.l3 M, MSh.p8 M, MSh.o4 M, MSh.l4 M, MSh.p9 M, MSh.o5 M, MSh.l5 M, MSh.p10 M, MSh.o6 M, MSh.l6 M, MSh.p24 M, MSh.o7 M, MSh.l7 M, MSh.p25 M, MSh.o8 M, MSh.l8 M, MSh.p26 M, MSh.o9 M, MSh.l9 M, MSh.p32 M, MSh.o10 M, MSh.l10 M, MSh.p33 M, MSh.o11 M, MSh.l11 M, MSh.p35 M, MSh.o12 M, MSh.l12 M, MSh.p36 M, MSh.o13 M, MSh.l13 M, MSh.p37 M, MSh.o14 M, MSh.l14 M, MSh.p38 M, MSh.o15 M, MSh.l15 M, MSh.p39 M, MSh.o16 M, MSh.l16 M, MSh.p42 M, MSh.o17 M, MSh.l17 M, MSh.p43 M, MSh.o18 M, MSh.l18 M, MSh.p44 M, MSh.o19 M, MSh.l19 M, MSh.p45 M, MSh.o20 M, MSh.l20 M, MSh.p46 M, MSh.o21 M, MSh.l21 M, MSh.p47 M, MSh.o22 M, MSh.l22 M, MSh.p50 M, MSh.o23 M, MSh.l23 M, MSh.p51 M, MSh.o24 M, MSh.l24 M, MSh.p52 M, MSh.o25 M, MSh.l25 M, eg, -Int.reduceToNat, -Int32.reduceToNatClampNeg, il0, il1, il2, il3, il4, il5, il6, il7, il8, il9, il10, il11, il12, il13, il14, il15, il16, il17, il18, il19, il20, il21, il22, il23, il24, il25, il26, il27, il28, il29, il30, il31, il32, il35, il36, il38, il40, il42, il43, il44, il45, il46, il47, il48, il49, il50, il51, il52, il57, il59, il60, il63, il64, il75, il80, il95, il96, il97, il98, il99, il100, il120, il122, il123, il127, il128, il135, il167, il175, il225, il249, il250, il255, il256, il360, il370, il384, il600, il700, il740, il900, il940, il1024, il1600, il4800, il64000, il125000, il262143, il1000000000, iI_toInt, iI_add, iI_sub, iI_mul, iI_neg, iI_lt, iI_le, iI_eq, iI_n, iI_in, iI_div, iI_mod, iI_shm, iI_and1, iI_and7, iI_and63, iI_shr3, iI_shr6, rd_I, ob, Option.some.injEq, exists_eq_left', exists_eq_left, true_and, and_true, fqI, fqJ, eq_self, true_or, or_true, bP_0, bP_0i, npP, bP_1i, bP_b, not_true_eq_false, not_false_eq_true, false_implies, true_implies, implies_true, Classical.not_not, and_self, cP, cP', ite_n, ite_f]
    have nxt : ∀ g2, Inv g2 i la fr qa ac → Qt h1 g2 → rd g2 94 = rd h1 94 → inQ (rd h1 94) q b = -1 → wl_X12_instead_17 post m g2 92 (iI q) (iI (b + 1)) := fun g2 I2 q2 e2 hb => kk g2 ⟨I2, q2, e2, fun j j1 j2 => by
      by_cases cj : j = b
      · subst cj; exact hb
      · exact hno j j1 (by omega)⟩
    refine lf_for (W := fun m' (g : AH) w => wl_X12_instead_31 (wl_X12_instead_17 post m) post m' g 92 (iI q) (iI b) (iI w)) (lo := 0) (hi := 5) (fun w g => Inv g i la fr qa ac ∧ Qt h1 g ∧ rd g 94 = rd h1 94 ∧ ∀ j, 0 ≤ j → j < w → ¬ (j ≠ rd h1 94 (250 + 2 * b) ∧ inP (rd h1 94) q b j)) (by omega) ?_ ?_ g ⟨Ig, qg, eg, fun j j1 j2 => by omega⟩
    · intro m' g w w1 w2 hg kw
      obtain ⟨Ig, qg, eg, hnw⟩ := hg
      have M := Ig.m
      show wb_X12_instead_31 (wl_X12_instead_17 post m) (wl_X12_instead_31 (wl_X12_instead_17 post m) post m') g 92 (iI q) (iI b) (iI w) post
      unfold wb_X12_instead_31 wb_X12_instead_85 wb_X12_instead_91
      simp (disch := omega) only [MSh.o0 M, MSh.p1 M, MSh.o1 M, MSh.l1 M, MSh.p6 M, MSh.o2 M, MSh.l2 M, MSh.p7 M, MSh.o3 M, MSh.l3 M, MSh.p8 M, MSh.o4 M, MSh.l4 M, MSh.p9 M, MSh.o5 M, MSh.l5 M, MSh.p10 M, MSh.o6 M, MSh.l6 M, MSh.p24 M, MSh.o7 M, MSh.l7 M, MSh.p25 M, MSh.o8 M, MSh.l8 M, MSh.p26 M, MSh.o9 M, MSh.l9 M, MSh.p32 M, MSh.o10 M, MSh.l10 M, MSh.p33 M, MSh.o11 M, MSh.l11 M, MSh.p35 M, MSh.o12 M, MSh.l12 M, MSh.p36 M, MSh.o13 M, MSh.l13 M, MSh.p37 M, MSh.o14 M, MSh.l14 M, MSh.p38 M, MSh.o15 M, MSh.l15 M, MSh.p39 M, MSh.o16 M, MSh.l16 M, MSh.p42 M, MSh.o17 M, MSh.l17 M, MSh.p43 M, MSh.o18 M, MSh.l18 M, MSh.p44 M, MSh.o19 M, MSh.l19 M, MSh.p45 M, MSh.o20 M, MSh.l20 M, MSh.p46 M, MSh.o21 M, MSh.l21 M, MSh.p47 M, MSh.o22 M, MSh.l22 M, MSh.p50 M, MSh.o23 M, MSh.l23 M, MSh.p51 M, MSh.o24 M, MSh.l24 M, MSh.p52 M, MSh.o25 M, MSh.l25 M, eg, -Int.reduceToNat, -Int32.reduceToNatClampNeg, il0, il1, il2, il3, il4, il5, il6, il7, il8, il9, il10, il11, il12, il13, il14, il15, il16, il17, il18, il19, il20, il21, il22, il23, il24, il25, il26, il27, il28, il29, il30, il31, il32, il35, il36, il38, il40, il42, il43, il44, il45, il46, il47, il48, il49, il50, il51, il52, il57, il59, il60, il63, il64, il75, il80, il95, il96, il97, il98, il99, il100, il120, il122, il123, il127, il128, il135, il167, il175, il225, il249, il250, il255, il256, il360, il370, il384, il600, il700, il740, il900, il940, il1024, il1600, il4800, il64000, il125000, il262143, il1000000000, iI_toInt, iI_add, iI_sub, iI_mul, iI_neg, iI_lt, iI_le, iI_eq, iI_n, iI_in, iI_div, iI_mod, iI_shm, iI_and1, iI_and7, iI_and63, iI_shr3, iI_shr6, rd_I, ob, Option.some.injEq, exists_eq_left', exists_eq_left, true_and, and_true, fqI, fqJ, eq_self, true_or, or_true, bP_0, bP_0i, npP, bP_1i, bP_b, not_true_eq_false, not_false_eq_true, false_implies, true_implies, implies_true, Classical.not_not, and_self, cP, cP', ite_n, ite_f]
      by_cases c5 : rd h1 94 (250 + 2 * b) = 5
      · rw [ite_t c5]
        exact nxt g Ig qg eg (by unfold inQ; rw [ite_t c5])
      rw [ite_f c5]
      have kw' : ∀ g2, Inv g2 i la fr qa ac → Qt h1 g2 → rd g2 94 = rd h1 94 → ¬ (w ≠ rd h1 94 (250 + 2 * b) ∧ inP (rd h1 94) q b w) → wl_X12_instead_31 (wl_X12_instead_17 post m) post m' g2 92 (iI q) (iI b) (iI (w + 1)) := fun g2 I2 q2 e2 hb => kw g2 ⟨I2, q2, e2, fun j j1 j2 => by
        by_cases cj : j = w
        · subst cj; exact hb
        · exact hnw j j1 (by omega)⟩
      by_cases ce : w = rd h1 94 (250 + 2 * b)
      · rw [ite_t ce]
        exact kw' g Ig qg eg (fun p => p.1 ce)
      rw [ite_f ce]
      have hB : 0 ≤ b → 0 ≤ w → actOk (rd h1 94) w (rd h1 94 (250 + 2 * b + 1)) := fun _ _ => ⟨by omega, fun _ => A.2.1 (by have := A.1; omega), fun p => by omega⟩
      refine m_runQ Ig cq (by rw [eg]; omega) (by omega) (by rw [eg]; exact hB) fun h2 q2 R2 => ?_
      rw [eg] at R2 ⊢
      have lo := rnM_lo (q := q) (b := b) (hw := w) hG (by omega) (by omega) hB
      have tm := rnM_in (q := q) b1 b2 w1
      simp (disch := omega) only [-Int.reduceToNat, -Int32.reduceToNatClampNeg, il0, il1, il2, il3, il4, il5, il6, il7, il8, il9, il10, il11, il12, il13, il14, il15, il16, il17, il18, il19, il20, il21, il22, il23, il24, il25, il26, il27, il28, il29, il30, il31, il32, il35, il36, il38, il40, il42, il43, il44, il45, il46, il47, il48, il49, il50, il51, il52, il57, il59, il60, il63, il64, il75, il80, il95, il96, il97, il98, il99, il100, il120, il122, il123, il127, il128, il135, il167, il175, il225, il249, il250, il255, il256, il360, il370, il384, il600, il700, il740, il900, il940, il1024, il1600, il4800, il64000, il125000, il262143, il1000000000, iI_toInt, iI_add, iI_sub, iI_mul, iI_neg, iI_lt, iI_le, iI_eq, iI_n, iI_in, iI_div, iI_mod, iI_shm, iI_and1, iI_and7, iI_and63, iI_shr3, iI_shr6, rd_I, ob, Option.some.injEq, exists_eq_left', exists_eq_left, true_and, and_true, fqI, fqJ, eq_self, true_or, or_true, bP_0, bP_0i, npP, bP_1i, bP_b, not_true_eq_false, not_false_eq_true, false_implies, true_implies, implies_true, Classical.not_not, and_self]
      by_cases c : inP (rd h1 94) q b w
      · have e := tm.mpr c
        rw [e, ite_f (by omega)]
        have := k h2 (q1.trans (qg.trans q2))
        rw [inV_at cq b1 b2 hno c5 w1 w2 hnw ⟨ce, c⟩] at this
        exact this
      · have e : ¬ (rnM (rd h1 94) q b w (rd h1 94 249).toNat 0 (J0 (rd h1 94))).1 = -1 := fun p => c (tm.mp p)
        rw [ite_t (by omega)]
        exact kw' h2 (Ig.qt q2 (Nat.le_refl _)) (qg.trans q2) (by rw [q2.1.row (by decide), eg]) (fun p => c p.2)
    · intro m' g hg
      obtain ⟨Ig, qg, eg, hnw⟩ := hg
      show wb_X12_instead_31 (wl_X12_instead_17 post m) (wl_X12_instead_31 (wl_X12_instead_17 post m) post m') g 92 (iI q) (iI b) (iI 5) post
      unfold wb_X12_instead_31 wb_X12_instead_91
      simp (disch := omega) only [-Int.reduceToNat, -Int32.reduceToNatClampNeg, il0, il1, il2, il3, il4, il5, il6, il7, il8, il9, il10, il11, il12, il13, il14, il15, il16, il17, il18, il19, il20, il21, il22, il23, il24, il25, il26, il27, il28, il29, il30, il31, il32, il35, il36, il38, il40, il42, il43, il44, il45, il46, il47, il48, il49, il50, il51, il52, il57, il59, il60, il63, il64, il75, il80, il95, il96, il97, il98, il99, il100, il120, il122, il123, il127, il128, il135, il167, il175, il225, il249, il250, il255, il256, il360, il370, il384, il600, il700, il740, il900, il940, il1024, il1600, il4800, il64000, il125000, il262143, il1000000000, iI_toInt, iI_add, iI_sub, iI_mul, iI_neg, iI_lt, iI_le, iI_eq, iI_n, iI_in, iI_div, iI_mod, iI_shm, iI_and1, iI_and7, iI_and63, iI_shr3, iI_shr6, rd_I, ob, Option.some.injEq, exists_eq_left', exists_eq_left, true_and, and_true, fqI, fqJ, eq_self, true_or, or_true, bP_0, bP_0i, npP, bP_1i, bP_b, not_true_eq_false, not_false_eq_true, false_implies, true_implies, implies_true, Classical.not_not, and_self, cP, cP', ite_n, ite_T, ite_F, ite_t, ite_f]
      refine nxt g Ig qg eg ?_
      unfold inQ
      by_cases c5 : rd h1 94 (250 + 2 * b) = 5
      · rw [ite_t c5]
      · rw [ite_f c5]
        exact fstI_no _ 0 fun j j1 j2 => hnw j j1 (by omega)
  · intro m g hg
    obtain ⟨Ig, qg, eg, hno⟩ := hg
    have M := Ig.m
    show wb_X12_instead_17 (wl_X12_instead_17 post m) g 92 (iI q) (iI _) post
    unfold wb_X12_instead_17
    simp (disch := omega) only [MSh.o0 M, MSh.p1 M, MSh.o1 M, MSh.l1 M, MSh.p6 M, MSh.o2 M, MSh.l2 M, MSh.p7 M, MSh.o3 M, MSh.l3 M, MSh.p8 M, MSh.o4 M, MSh.l4 M, MSh.p9 M, MSh.o5 M, MSh.l5 M, MSh.p10 M, MSh.o6 M, MSh.l6 M, MSh.p24 M, MSh.o7 M, MSh.l7 M, MSh.p25 M, MSh.o8 M, MSh.l8 M, MSh.p26 M, MSh.o9 M, MSh.l9 M, MSh.p32 M, MSh.o10 M, MSh.l10 M, MSh.p33 M, MSh.o11 M, MSh.l11 M, MSh.p35 M, MSh.o12 M, MSh.l12 M, MSh.p36 M, MSh.o13 M, MSh.l13 M, MSh.p37 M, MSh.o14 M, MSh.l14 M, MSh.p38 M, MSh.o15 M, MSh.l15 M, MSh.p39 M, MSh.o16 M, MSh.l16 M, MSh.p42 M, MSh.o17 M, MSh.l17 M, MSh.p43 M, MSh.o18 M, MSh.l18 M, MSh.p44 M, MSh.o19 M, MSh.l19 M, MSh.p45 M, MSh.o20 M, MSh.l20 M, MSh.p46 M, MSh.o21 M, MSh.l21 M, MSh.p47 M, MSh.o22 M, MSh.l22 M, MSh.p50 M, MSh.o23 M, MSh.l23 M, MSh.p51 M, MSh.o24 M, MSh.l24 M, MSh.p52 M, MSh.o25 M, MSh.l25 M, eg, -Int.reduceToNat, -Int32.reduceToNatClampNeg, il0, il1, il2, il3, il4, il5, il6, il7, il8, il9, il10, il11, il12, il13, il14, il15, il16, il17, il18, il19, il20, il21, il22, il23, il24, il25, il26, il27, il28, il29, il30, il31, il32, il35, il36, il38, il40, il42, il43, il44, il45, il46, il47, il48, il49, il50, il51, il52, il57, il59, il60, il63, il64, il75, il80, il95, il96, il97, il98, il99, il100, il120, il122, il123, il127, il128, il135, il167, il175, il225, il249, il250, il255, il256, il360, il370, il384, il600, il700, il740, il900, il940, il1024, il1600, il4800, il64000, il125000, il262143, il1000000000, iI_toInt, iI_add, iI_sub, iI_mul, iI_neg, iI_lt, iI_le, iI_eq, iI_n, iI_in, iI_div, iI_mod, iI_shm, iI_and1, iI_and7, iI_and63, iI_shr3, iI_shr6, rd_I, ob, Option.some.injEq, exists_eq_left', exists_eq_left, true_and, and_true, fqI, fqJ, eq_self, true_or, or_true, bP_0, bP_0i, npP, bP_1i, bP_b, not_true_eq_false, not_false_eq_true, false_implies, true_implies, implies_true, Classical.not_not, and_self, cP, cP', ite_n, ite_T, ite_F, ite_t, ite_f]
    have := k g (q1.trans qg)
    rw [inV_no cq hno] at this
    exact this
theorem inQ_bad (h : (pfx s q b).1 ≠ -1) : inQ s q b = -1 := by
  unfold inQ
  by_cases c5 : s (250 + 2 * b) = 5
  · rw [ite_t c5]
  · rw [ite_f c5]
    exact fstI_no _ 0 fun j j1 j2 p => h p.2.1
theorem TrR.oth (R : TrR h 66 la s q J) (f : Fr [70, 70 + 2] [70 + 3] [] h h') : TrR h' 66 la s q J := by
  obtain ⟨a1, a2, a3, a4, a5, a6⟩ := R
  have nt : (66 : Nat) ∉ [(70 : Nat), 70 + 2] := by decide
  exact ⟨by rw [f.row nt]; exact a1, by rw [f.row nt]; exact a2, by rw [f.row nt]; exact a3, by rw [f.row nt]; exact a4, by rw [f.row nt]; exact a5, TR.gr a6 f.gr (by intro k hk; unfold DynP; simp [hk]) List.not_mem_nil (by decide) (by decide)⟩
theorem cX_instead (I : Inv h i la fr qa ac) (hq1 : -2147483648 ≤ q) (hq2 : q < 2147483648) (k : ∀ h', Inv h' i la fr qa ac → rd h' 94 = rd h 94 → post h' (iI (inV (rd h 94) q))) : wp_X11_instead h 0 (iI q) post := by
  have C := I.cc
  have hG := I.ga
  have bd := hG.bd
  have T := I.core.2.2.2.2.2.2.1
  obtain ⟨S, hl, hp, H, L, P⟩ := id C
  have fin : ∀ h', Gr [66, 68, 70, 72] [69, 73] [(67, 0), (71, 0)] h h' → aN h' = aN h → aS h' = aS h → post h' (iI (inV (rd h 94) q)) := fun h' g eN eS => by
    obtain ⟨I', e', -⟩ := I.scr (g.mono (by simp) (by simp) (by simp) (by simp [DynP])) eN eS
    exact k h' I' e'
  have k00 := k h I rfl
  clear k
  generalize hs : rd h 94 = s at *
  unfold wp_X11_instead
  simp (disch := omega) only [-Int.reduceToNat, -Int32.reduceToNatClampNeg, il0, il1, il2, il3, il4, il5, il6, il7, il8, il9, il10, il11, il12, il13, il14, il15, il16, il17, il18, il19, il20, il21, il22, il23, il24, il25, il26, il27, il28, il29, il30, il31, il32, il35, il36, il38, il40, il42, il43, il44, il45, il46, il47, il48, il49, il50, il51, il52, il57, il59, il60, il63, il64, il75, il80, il95, il96, il97, il98, il99, il100, il120, il122, il123, il127, il128, il135, il167, il175, il225, il249, il250, il255, il256, il360, il370, il384, il600, il700, il740, il900, il940, il1024, il1600, il4800, il64000, il125000, il262143, il1000000000, iI_toInt, iI_add, iI_sub, iI_mul, iI_neg, iI_lt, iI_le, iI_eq, iI_n, iI_in, iI_div, iI_mod, iI_shm, iI_and1, iI_and7, iI_and63, iI_shr3, iI_shr6, rd_I, ob, Option.some.injEq, exists_eq_left', exists_eq_left, true_and, and_true, fqI, fqJ, eq_self, true_or, or_true, bP_0, bP_0i, npP, bP_1i, bP_b, not_true_eq_false, not_false_eq_true, false_implies, true_implies, implies_true, Classical.not_not, and_self, cP, cP', ite_n, c_isQuarter]
  by_cases cq : 0 ≤ q ∧ q < 96
  case neg => rw [ite_f cq]; unfold inV at k00; rw [ite_f cq] at k00; exact k00
  rw [ite_t cq]
  simp (disch := omega) only [CSh.o0 S, CSh.o1 S, CSh.o2 S, CSh.o3 S, CSh.o26 S, CSh.o27 S, CSh.o29 S, CSh.o30 S, CSh.o31 S, CSh.o56 S, CSh.o57 S, CSh.o58 S, CSh.o62 S, CSh.o66 S, CSh.o70 S, CSh.o74 S, CSh.o75 S, CSh.o77 S, CSh.o79 S, CSh.o80 S, CSh.o81 S, CSh.o82 S, CSh.o83 S, CSh.o84 S, CSh.o85 S, CSh.o86 S, CSh.o87 S, CSh.o88 S, CSh.o53 S, CSh.o54 S, CSh.o55 S, CSh.o59 S, CSh.o60 S, CSh.o61 S, CSh.o63 S, CSh.o64 S, CSh.o65 S, CSh.o67 S, CSh.o68 S, CSh.o69 S, CSh.o71 S, CSh.o72 S, CSh.o73 S, CSh.o89 S, CSh.o90 S, CSh.o91 S, CSh.l1 S, CSh.l3 S, CSh.l27 S, CSh.l29 S, CSh.l30 S, CSh.l56 S, CSh.l57 S, CSh.l58 S, CSh.l75 S, CSh.l77 S, CSh.l79 S, CSh.l81 S, CSh.l82 S, CSh.l83 S, CSh.l84 S, CSh.l85 S, CSh.l86 S, CSh.l87 S, CSh.l88 S, CSh.l54 S, CSh.l55 S, CSh.l60 S, CSh.l61 S, CSh.l64 S, CSh.l65 S, CSh.l68 S, CSh.l69 S, CSh.l72 S, CSh.l73 S, CSh.l90 S, CSh.l91 S, CSh.p0_0 S, CSh.p0_3 S, CSh.p0_4 S, CSh.p0_5 S, CSh.p0_6 S, CSh.p0_7 S, CSh.p0_8 S, CSh.p0_9 S, CSh.p0_10 S, CSh.p0_14 S, CSh.p2_0 S, CSh.p26_0 S, CSh.p26_13 S, CSh.p26_14 S, CSh.p31_1 S, CSh.p31_3 S, CSh.p31_4 S, CSh.p62_0 S, CSh.p66_0 S, CSh.p70_0 S, CSh.p74_0 S, CSh.p74_1 S, CSh.p74_6 S, CSh.p74_7 S, CSh.p74_10 S, CSh.p80_1 S, CSh.p80_2 S, CSh.p80_3 S, CSh.p80_4 S, CSh.p80_5 S, CSh.p80_6 S, CSh.p80_7 S, CSh.p80_8 S, CSh.p53_1 S, CSh.p53_2 S, CSh.p59_1 S, CSh.p59_2 S, CSh.p63_1 S, CSh.p63_2 S, CSh.p67_1 S, CSh.p67_2 S, CSh.p71_1 S, CSh.p71_2 S, CSh.p89_1 S, CSh.p89_2 S, hp, -Int.reduceToNat, -Int32.reduceToNatClampNeg, il0, il1, il2, il3, il4, il5, il6, il7, il8, il9, il10, il11, il12, il13, il14, il15, il16, il17, il18, il19, il20, il21, il22, il23, il24, il25, il26, il27, il28, il29, il30, il31, il32, il35, il36, il38, il40, il42, il43, il44, il45, il46, il47, il48, il49, il50, il51, il52, il57, il59, il60, il63, il64, il75, il80, il95, il96, il97, il98, il99, il100, il120, il122, il123, il127, il128, il135, il167, il175, il225, il249, il250, il255, il256, il360, il370, il384, il600, il700, il740, il900, il940, il1024, il1600, il4800, il64000, il125000, il262143, il1000000000, ob, Option.some.injEq, exists_eq_left', exists_eq_left, true_and, and_true, fqI, fqJ, eq_self, true_or, or_true, bP_0, bP_0i, npP, bP_1i, bP_b, not_true_eq_false, not_false_eq_true, false_implies, true_implies, implies_true, Classical.not_not, and_self]
  refine c_beginT C (Or.inr (Or.inl rfl)) hG T cq fun ha ga na sa Ra => ?_
  refine lf_for (W := fun n (g : AH) b => wl_X11_instead_34 post n g 0 (iI b)) (lo := 0) (hi := s 249) (fun b g => Gr [66, 68, 70, 72] [69, 73] [(67, 0), (71, 0)] h g ∧ aN g = aN h ∧ aS g = aS h ∧ CC g la s ∧ TrR g 66 la s q (pfx s q b).2 ∧ (pfx s q b).1 = -1 ∧ JI s b (pfx s q b).2 ∧ ∀ j, 0 ≤ j → j < b → inQ s q j = -1) (by omega) ?_ ?_ ha ⟨ga.mono (by simp) (by simp) (by simp) (by simp [DynP]), na, sa, C.gr ga (fun a ha => by simp at ha; omega) (fun a ha => by simp at ha; omega) (by decide), Ra, rfl, J0_I hG, fun j j1 j2 => by omega⟩
  · intro m g b b1 b2 hg kk
    obtain ⟨gg, nN, nS, Cg, Rg, p1, Jg, hno⟩ := hg
    have sbb := hG.sb (250 + 2 * b) (by omega) (by omega)
    have A := hG.act b1 b2
    have ps := pfx_s (s := s) (q := q) b1
    rw [ite_t p1] at ps
    -- the ACT itself is done ahead
    have ahead : ∀ g2, Gr [66, 68, 70, 72] [69, 73] [(67, 0), (71, 0)] h g2 → aN g2 = aN h → aS g2 = aS h → CC g2 la s → TrR g2 66 la s q (pfx s q b).2 → inQ s q b = -1 → wb_X11_instead_140 (wl_X11_instead_34 post m) g2 0 (iI b) post := by
      intro g2 G2 N2 S2 C2 R2 hb
      obtain ⟨Sc, hlc, hpc, Hc, Lc, Q1, Q2⟩ := id C2
      obtain ⟨Qa, Qb⟩ := Q2 b b1 b2
      have Qa : rd g2 56 b = s (250 + 2 * b) := Qa
      have Qb : rd g2 57 b = s (250 + 2 * b + 1) := Qb
      unfold wb_X11_instead_140
      simp (disch := omega) only [CSh.o0 Sc, CSh.o1 Sc, CSh.o2 Sc, CSh.o3 Sc, CSh.o26 Sc, CSh.o27 Sc, CSh.o29 Sc, CSh.o30 Sc, CSh.o31 Sc, CSh.o56 Sc, CSh.o57 Sc, CSh.o58 Sc, CSh.o62 Sc, CSh.o66 Sc, CSh.o70 Sc, CSh.o74 Sc, CSh.o75 Sc, CSh.o77 Sc, CSh.o79 Sc, CSh.o80 Sc, CSh.o81 Sc, CSh.o82 Sc, CSh.o83 Sc, CSh.o84 Sc, CSh.o85 Sc, CSh.o86 Sc, CSh.o87 Sc, CSh.o88 Sc, CSh.o53 Sc, CSh.o54 Sc, CSh.o55 Sc, CSh.o59 Sc, CSh.o60 Sc, CSh.o61 Sc, CSh.o63 Sc, CSh.o64 Sc, CSh.o65 Sc, CSh.o67 Sc, CSh.o68 Sc, CSh.o69 Sc, CSh.o71 Sc, CSh.o72 Sc, CSh.o73 Sc, CSh.o89 Sc, CSh.o90 Sc, CSh.o91 Sc, CSh.l1 Sc, CSh.l3 Sc, CSh.l27 Sc, CSh.l29 Sc, CSh.l30 Sc, CSh.l56 Sc, CSh.l57 Sc, CSh.l58 Sc, CSh.l75 Sc, CSh.l77 Sc, CSh.l79 Sc, CSh.l81 Sc, CSh.l82 Sc, CSh.l83 Sc, CSh.l84 Sc, CSh.l85 Sc, CSh.l86 Sc, CSh.l87 Sc, CSh.l88 Sc, CSh.l54 Sc, CSh.l55 Sc, CSh.l60 Sc, CSh.l61 Sc, CSh.l64 Sc, CSh.l65 Sc, CSh.l68 Sc, CSh.l69 Sc, CSh.l72 Sc, CSh.l73 Sc, CSh.l90 Sc, CSh.l91 Sc, CSh.p0_0 Sc, CSh.p0_3 Sc, CSh.p0_4 Sc, CSh.p0_5 Sc, CSh.p0_6 Sc, CSh.p0_7 Sc, CSh.p0_8 Sc, CSh.p0_9 Sc, CSh.p0_10 Sc, CSh.p0_14 Sc, CSh.p2_0 Sc, CSh.p26_0 Sc, CSh.p26_13 Sc, CSh.p26_14 Sc, CSh.p31_1 Sc, CSh.p31_3 Sc, CSh.p31_4 Sc, CSh.p62_0 Sc, CSh.p66_0 Sc, CSh.p70_0 Sc, CSh.p74_0 Sc, CSh.p74_1 Sc, CSh.p74_6 Sc, CSh.p74_7 Sc, CSh.p74_10 Sc, CSh.p80_1 Sc, CSh.p80_2 Sc, CSh.p80_3 Sc, CSh.p80_4 Sc, CSh.p80_5 Sc, CSh.p80_6 Sc, CSh.p80_7 Sc, CSh.p80_8 Sc, CSh.p53_1 Sc, CSh.p53_2 Sc, CSh.p59_1 Sc, CSh.p59_2 Sc, CSh.p63_1 Sc, CSh.p63_2 Sc, CSh.p67_1 Sc, CSh.p67_2 Sc, CSh.p71_1 Sc, CSh.p71_2 Sc, CSh.p89_1 Sc, CSh.p89_2 Sc, fd0, fd1, fd2, fd3, fd4, fd5, fd6, fd7, fd8, fd9, fd10, fd11, fd12, fd13, fd14, fd15, fd16, fd17, fd18, fd19, fd20, fd21, fd22, fd23, fd24, fd25, fd26, fd27, fd28, fd29, fd30, fd31, fd32, fd33, fd34, fd35, fd36, fd37, fd38, fd39, fd40, fd41, fd42, fd43, fd44, fd45, fd46, fd47, fd48, fd49, fd50, fd51, fd52, Qa, Qb, -Int.reduceToNat, -Int32.reduceToNatClampNeg, il0, il1, il2, il3, il4, il5, il6, il7, il8, il9, il10, il11, il12, il13, il14, il15, il16, il17, il18, il19, il20, il21, il22, il23, il24, il25, il26, il27, il28, il29, il30, il31, il32, il35, il36, il38, il40, il42, il43, il44, il45, il46, il47, il48, il49, il50, il51, il52, il57, il59, il60, il63, il64, il75, il80, il95, il96, il97, il98, il99, il100, il120, il122, il123, il127, il128, il135, il167, il175, il225, il249, il250, il255, il256, il360, il370, il384, il600, il700, il740, il900, il940, il1024, il1600, il4800, il64000, il125000, il262143, il1000000000, iI_toInt, iI_add, iI_sub, iI_mul, iI_neg, iI_lt, iI_le, iI_eq, iI_n, iI_in, iI_div, iI_mod, iI_shm, iI_and1, iI_and7, iI_and63, iI_shr3, iI_shr6, rd_I, ob, Option.some.injEq, exists_eq_left', exists_eq_left, true_and, and_true, fqI, fqJ, eq_self, true_or, or_true, bP_0, bP_0i, npP, bP_1i, bP_b, not_true_eq_false, not_false_eq_true, false_implies, true_implies, implies_true, Classical.not_not, and_self]
      refine c_step C2 hG (Or.inr (Or.inl rfl)) R2 Jg (by omega) cq A fun hd fd Rd => ?_
      have G3 : Gr [66, 68, 70, 72] [69, 73] [(67, 0), (71, 0)] h hd := G2.trans (fd.gr.mono (by simp) (by simp) (by simp) (by simp [DynP]))
      have N3 : aN hd = aN h := by rw [fd.1, N2]
      have S3 : aS hd = aS h := by rw [fd.2.1, S2]
      rw [bP_0i]
      simp (disch := omega) only [cP, cP', ite_n, -Int.reduceToNat, -Int32.reduceToNatClampNeg, il0, il1, il2, il3, il4, il5, il6, il7, il8, il9, il10, il11, il12, il13, il14, il15, il16, il17, il18, il19, il20, il21, il22, il23, il24, il25, il26, il27, il28, il29, il30, il31, il32, il35, il36, il38, il40, il42, il43, il44, il45, il46, il47, il48, il49, il50, il51, il52, il57, il59, il60, il63, il64, il75, il80, il95, il96, il97, il98, il99, il100, il120, il122, il123, il127, il128, il135, il167, il175, il225, il249, il250, il255, il256, il360, il370, il384, il600, il700, il740, il900, il940, il1024, il1600, il4800, il64000, il125000, il262143, il1000000000, iI_toInt, iI_add, iI_sub, iI_mul, iI_neg, iI_lt, iI_le, iI_eq, iI_n, iI_in, iI_div, iI_mod, iI_shm, iI_and1, iI_and7, iI_and63, iI_shr3, iI_shr6, rd_I, ob, Option.some.injEq, exists_eq_left', exists_eq_left, true_and, and_true, fqI, fqJ, eq_self, true_or, or_true, bP_0, bP_0i, npP, bP_1i, bP_b, not_true_eq_false, not_false_eq_true, false_implies, true_implies, implies_true, Classical.not_not, and_self]
      have hno' : ∀ j, 0 ≤ j → j < b + 1 → inQ s q j = -1 := fun j j1 j2 => by
        by_cases cj : j = b
        · subst cj; exact hb
        · exact hno j j1 (by omega)
      by_cases cw : stW s q (pfx s q b).2 (s (250 + 2 * b)) (s (250 + 2 * b + 1)) = 0
      · rw [ite_t cw]
        rw [ite_t cw] at ps
        refine kk hd ⟨G3, N3, S3, C2.gr fd.gr (fun a ha => by simp at ha; omega) (fun a ha => by simp at ha; omega) List.not_mem_nil, by rw [ps]; exact Rd, by rw [ps], by rw [ps]; exact stJ_I hG A Jg b1 cw, hno'⟩
      · rw [ite_f cw]
        rw [ite_f cw] at ps
        have bad := pfx_bad (s := s) (q := q) (b := b + 1) (by omega) (by rw [ps]; show b ≠ -1; omega)
        have := fin hd G3 N3 S3
        rw [inV_no cq (fun j j1 j2 => by
          by_cases cj : j < b + 1
          · exact hno' j j1 cj
          · have := bad (j - (b + 1)).toNat
            rw [show b + 1 + ((j - (b + 1)).toNat : Int) = j by omega] at this
            exact inQ_bad this)] at this
        exact this
    obtain ⟨Sg, hlg, hpg, Hg, Lg, P1, P2⟩ := id Cg
    have P1 : rd g 31 2 = s 249 := P1
    show wb_X11_instead_34 (wl_X11_instead_34 post m) g 0 (iI b) post
    unfold wb_X11_instead_34
    simp (disch := omega) only [CSh.o0 Sg, CSh.o1 Sg, CSh.o2 Sg, CSh.o3 Sg, CSh.o26 Sg, CSh.o27 Sg, CSh.o29 Sg, CSh.o30 Sg, CSh.o31 Sg, CSh.o56 Sg, CSh.o57 Sg, CSh.o58 Sg, CSh.o62 Sg, CSh.o66 Sg, CSh.o70 Sg, CSh.o74 Sg, CSh.o75 Sg, CSh.o77 Sg, CSh.o79 Sg, CSh.o80 Sg, CSh.o81 Sg, CSh.o82 Sg, CSh.o83 Sg, CSh.o84 Sg, CSh.o85 Sg, CSh.o86 Sg, CSh.o87 Sg, CSh.o88 Sg, CSh.o53 Sg, CSh.o54 Sg, CSh.o55 Sg, CSh.o59 Sg, CSh.o60 Sg, CSh.o61 Sg, CSh.o63 Sg, CSh.o64 Sg, CSh.o65 Sg, CSh.o67 Sg, CSh.o68 Sg, CSh.o69 Sg, CSh.o71 Sg, CSh.o72 Sg, CSh.o73 Sg, CSh.o89 Sg, CSh.o90 Sg, CSh.o91 Sg, CSh.l1 Sg, CSh.l3 Sg, CSh.l27 Sg, CSh.l29 Sg, CSh.l30 Sg, CSh.l56 Sg, CSh.l57 Sg, CSh.l58 Sg, CSh.l75 Sg, CSh.l77 Sg, CSh.l79 Sg, CSh.l81 Sg, CSh.l82 Sg, CSh.l83 Sg, CSh.l84 Sg, CSh.l85 Sg, CSh.l86 Sg, CSh.l87 Sg, CSh.l88 Sg, CSh.l54 Sg, CSh.l55 Sg, CSh.l60 Sg, CSh.l61 Sg, CSh.l64 Sg, CSh.l65 Sg, CSh.l68 Sg, CSh.l69 Sg, CSh.l72 Sg, CSh.l73 Sg, CSh.l90 Sg, CSh.l91 Sg, CSh.p0_0 Sg, CSh.p0_3 Sg, CSh.p0_4 Sg, CSh.p0_5 Sg, CSh.p0_6 Sg, CSh.p0_7 Sg, CSh.p0_8 Sg, CSh.p0_9 Sg, CSh.p0_10 Sg, CSh.p0_14 Sg, CSh.p2_0 Sg, CSh.p26_0 Sg, CSh.p26_13 Sg, CSh.p26_14 Sg, CSh.p31_1 Sg, CSh.p31_3 Sg, CSh.p31_4 Sg, CSh.p62_0 Sg, CSh.p66_0 Sg, CSh.p70_0 Sg, CSh.p74_0 Sg, CSh.p74_1 Sg, CSh.p74_6 Sg, CSh.p74_7 Sg, CSh.p74_10 Sg, CSh.p80_1 Sg, CSh.p80_2 Sg, CSh.p80_3 Sg, CSh.p80_4 Sg, CSh.p80_5 Sg, CSh.p80_6 Sg, CSh.p80_7 Sg, CSh.p80_8 Sg, CSh.p53_1 Sg, CSh.p53_2 Sg, CSh.p59_1 Sg, CSh.p59_2 Sg, CSh.p63_1 Sg, CSh.p63_2 Sg, CSh.p67_1 Sg, CSh.p67_2 Sg, CSh.p71_1 Sg, CSh.p71_2 Sg, CSh.p89_1 Sg, CSh.p89_2 Sg, fd0, fd1, fd2, fd3, fd4, fd5, fd6, fd7, fd8, fd9, fd10, fd11, fd12, fd13, fd14, fd15, fd16, fd17, fd18, fd19, fd20, fd21, fd22, fd23, fd24, fd25, fd26, fd27, fd28, fd29, fd30, fd31, fd32, fd33, fd34, fd35, fd36, fd37, fd38, fd39, fd40, fd41, fd42, fd43, fd44, fd45, fd46, fd47, fd48, fd49, fd50, fd51, fd52, P1, -Int.reduceToNat, -Int32.reduceToNatClampNeg, il0, il1, il2, il3, il4, il5, il6, il7, il8, il9, il10, il11, il12, il13, il14, il15, il16, il17, il18, il19, il20, il21, il22, il23, il24, il25, il26, il27, il28, il29, il30, il31, il32, il35, il36, il38, il40, il42, il43, il44, il45, il46, il47, il48, il49, il50, il51, il52, il57, il59, il60, il63, il64, il75, il80, il95, il96, il97, il98, il99, il100, il120, il122, il123, il127, il128, il135, il167, il175, il225, il249, il250, il255, il256, il360, il370, il384, il600, il700, il740, il900, il940, il1024, il1600, il4800, il64000, il125000, il262143, il1000000000, iI_toInt, iI_add, iI_sub, iI_mul, iI_neg, iI_lt, iI_le, iI_eq, iI_n, iI_in, iI_div, iI_mod, iI_shm, iI_and1, iI_and7, iI_and63, iI_shr3, iI_shr6, rd_I, ob, Option.some.injEq, exists_eq_left', exists_eq_left, true_and, and_true, fqI, fqJ, eq_self, true_or, or_true, bP_0, bP_0i, npP, bP_1i, bP_b, not_true_eq_false, not_false_eq_true, false_implies, true_implies, implies_true, Classical.not_not, and_self, cP, cP', ite_n, ite_f]
    refine lf_for (W := fun m' (g : AH) w => wl_X11_instead_47 (wl_X11_instead_34 post m) post m' g 0 (iI b) (iI w)) (lo := 0) (hi := 5) (fun w g => Gr [66, 68, 70, 72] [69, 73] [(67, 0), (71, 0)] h g ∧ aN g = aN h ∧ aS g = aS h ∧ CC g la s ∧ TrR g 66 la s q (pfx s q b).2 ∧ ∀ j, 0 ≤ j → j < w → ¬ (j ≠ s (250 + 2 * b) ∧ inP s q b j)) (by omega) ?_ ?_ g ⟨gg, nN, nS, Cg, Rg, fun j j1 j2 => by omega⟩
    · intro m' g w w1 w2 hg kw
      obtain ⟨gg, nN, nS, Cg, Rg, hnw⟩ := hg
      obtain ⟨Sg, hlg, hpg, Hg, Lg, P1, P2⟩ := id Cg
      obtain ⟨Qa, Qb⟩ := P2 b b1 b2
      have Qa : rd g 56 b = s (250 + 2 * b) := Qa
      show wb_X11_instead_47 (wl_X11_instead_34 post m) (wl_X11_instead_47 (wl_X11_instead_34 post m) post m') g 0 (iI b) (iI w) post
      unfold wb_X11_instead_47 wb_X11_instead_134
      simp (disch := omega) only [CSh.o0 Sg, CSh.o1 Sg, CSh.o2 Sg, CSh.o3 Sg, CSh.o26 Sg, CSh.o27 Sg, CSh.o29 Sg, CSh.o30 Sg, CSh.o31 Sg, CSh.o56 Sg, CSh.o57 Sg, CSh.o58 Sg, CSh.o62 Sg, CSh.o66 Sg, CSh.o70 Sg, CSh.o74 Sg, CSh.o75 Sg, CSh.o77 Sg, CSh.o79 Sg, CSh.o80 Sg, CSh.o81 Sg, CSh.o82 Sg, CSh.o83 Sg, CSh.o84 Sg, CSh.o85 Sg, CSh.o86 Sg, CSh.o87 Sg, CSh.o88 Sg, CSh.o53 Sg, CSh.o54 Sg, CSh.o55 Sg, CSh.o59 Sg, CSh.o60 Sg, CSh.o61 Sg, CSh.o63 Sg, CSh.o64 Sg, CSh.o65 Sg, CSh.o67 Sg, CSh.o68 Sg, CSh.o69 Sg, CSh.o71 Sg, CSh.o72 Sg, CSh.o73 Sg, CSh.o89 Sg, CSh.o90 Sg, CSh.o91 Sg, CSh.l1 Sg, CSh.l3 Sg, CSh.l27 Sg, CSh.l29 Sg, CSh.l30 Sg, CSh.l56 Sg, CSh.l57 Sg, CSh.l58 Sg, CSh.l75 Sg, CSh.l77 Sg, CSh.l79 Sg, CSh.l81 Sg, CSh.l82 Sg, CSh.l83 Sg, CSh.l84 Sg, CSh.l85 Sg, CSh.l86 Sg, CSh.l87 Sg, CSh.l88 Sg, CSh.l54 Sg, CSh.l55 Sg, CSh.l60 Sg, CSh.l61 Sg, CSh.l64 Sg, CSh.l65 Sg, CSh.l68 Sg, CSh.l69 Sg, CSh.l72 Sg, CSh.l73 Sg, CSh.l90 Sg, CSh.l91 Sg, CSh.p0_0 Sg, CSh.p0_3 Sg, CSh.p0_4 Sg, CSh.p0_5 Sg, CSh.p0_6 Sg, CSh.p0_7 Sg, CSh.p0_8 Sg, CSh.p0_9 Sg, CSh.p0_10 Sg, CSh.p0_14 Sg, CSh.p2_0 Sg, CSh.p26_0 Sg, CSh.p26_13 Sg, CSh.p26_14 Sg, CSh.p31_1 Sg, CSh.p31_3 Sg, CSh.p31_4 Sg, CSh.p62_0 Sg, CSh.p66_0 Sg, CSh.p70_0 Sg, CSh.p74_0 Sg, CSh.p74_1 Sg, CSh.p74_6 Sg, CSh.p74_7 Sg, CSh.p74_10 Sg, CSh.p80_1 Sg, CSh.p80_2 Sg, CSh.p80_3 Sg, CSh.p80_4 Sg, CSh.p80_5 Sg, CSh.p80_6 Sg, CSh.p80_7 Sg, CSh.p80_8 Sg, CSh.p53_1 Sg, CSh.p53_2 Sg, CSh.p59_1 Sg, CSh.p59_2 Sg, CSh.p63_1 Sg, CSh.p63_2 Sg, CSh.p67_1 Sg, CSh.p67_2 Sg, CSh.p71_1 Sg, CSh.p71_2 Sg, CSh.p89_1 Sg, CSh.p89_2 Sg, fd0, fd1, fd2, fd3, fd4, fd5, fd6, fd7, fd8, fd9, fd10, fd11, fd12, fd13, fd14, fd15, fd16, fd17, fd18, fd19, fd20, fd21, fd22, fd23, fd24, fd25, fd26, fd27, fd28, fd29, fd30, fd31, fd32, fd33, fd34, fd35, fd36, fd37, fd38, fd39, fd40, fd41, fd42, fd43, fd44, fd45, fd46, fd47, fd48, fd49, fd50, fd51, fd52, Qa, -Int.reduceToNat, -Int32.reduceToNatClampNeg, il0, il1, il2, il3, il4, il5, il6, il7, il8, il9, il10, il11, il12, il13, il14, il15, il16, il17, il18, il19, il20, il21, il22, il23, il24, il25, il26, il27, il28, il29, il30, il31, il32, il35, il36, il38, il40, il42, il43, il44, il45, il46, il47, il48, il49, il50, il51, il52, il57, il59, il60, il63, il64, il75, il80, il95, il96, il97, il98, il99, il100, il120, il122, il123, il127, il128, il135, il167, il175, il225, il249, il250, il255, il256, il360, il370, il384, il600, il700, il740, il900, il940, il1024, il1600, il4800, il64000, il125000, il262143, il1000000000, iI_toInt, iI_add, iI_sub, iI_mul, iI_neg, iI_lt, iI_le, iI_eq, iI_n, iI_in, iI_div, iI_mod, iI_shm, iI_and1, iI_and7, iI_and63, iI_shr3, iI_shr6, rd_I, ob, Option.some.injEq, exists_eq_left', exists_eq_left, true_and, and_true, fqI, fqJ, eq_self, true_or, or_true, bP_0, bP_0i, npP, bP_1i, bP_b, not_true_eq_false, not_false_eq_true, false_implies, true_implies, implies_true, Classical.not_not, and_self, cP, cP', ite_n, ite_f]
      by_cases c5 : s (250 + 2 * b) = 5
      · rw [ite_t c5]
        exact ahead g gg nN nS Cg Rg (by unfold inQ; rw [ite_t c5])
      rw [ite_f c5]
      refine c_followT Cg Rg hG fun hb gb nb sb' R70 R66 => ?_
      have Cb := Cg.gr gb (fun a ha => by simp at ha; omega) (fun a ha => by simp at ha; omega) (by decide)
      have G1 : Gr [66, 68, 70, 72] [69, 73] [(67, 0), (71, 0)] h hb := gg.trans (gb.mono (by simp) (by simp) (by simp) (by simp [DynP]))
      have N1 : aN hb = aN h := by rw [nb, nN]
      have S1 : aS hb = aS h := by rw [sb', nS]
      obtain ⟨Sb, -, -, -, -, -, P2b⟩ := id Cb
      obtain ⟨Qa, Qb⟩ := P2b b b1 b2
      have Qa : rd hb 56 b = s (250 + 2 * b) := Qa
      have Qb : rd hb 57 b = s (250 + 2 * b + 1) := Qb
      have kw' : ∀ g2, Gr [66, 68, 70, 72] [69, 73] [(67, 0), (71, 0)] h g2 → aN g2 = aN h → aS g2 = aS h → CC g2 la s → TrR g2 66 la s q (pfx s q b).2 → ¬ (w ≠ s (250 + 2 * b) ∧ inP s q b w) → wl_X11_instead_47 (wl_X11_instead_34 post m) post m' g2 0 (iI b) (iI (w + 1)) := fun g2 a1 a2 a3 a4 a5 hb => kw g2 ⟨a1, a2, a3, a4, a5, fun j j1 j2 => by
        by_cases cj : j = w
        · subst cj; exact hb
        · exact hnw j j1 (by omega)⟩
      simp (disch := omega) only [CSh.o0 Sb, CSh.o1 Sb, CSh.o2 Sb, CSh.o3 Sb, CSh.o26 Sb, CSh.o27 Sb, CSh.o29 Sb, CSh.o30 Sb, CSh.o31 Sb, CSh.o56 Sb, CSh.o57 Sb, CSh.o58 Sb, CSh.o62 Sb, CSh.o66 Sb, CSh.o70 Sb, CSh.o74 Sb, CSh.o75 Sb, CSh.o77 Sb, CSh.o79 Sb, CSh.o80 Sb, CSh.o81 Sb, CSh.o82 Sb, CSh.o83 Sb, CSh.o84 Sb, CSh.o85 Sb, CSh.o86 Sb, CSh.o87 Sb, CSh.o88 Sb, CSh.o53 Sb, CSh.o54 Sb, CSh.o55 Sb, CSh.o59 Sb, CSh.o60 Sb, CSh.o61 Sb, CSh.o63 Sb, CSh.o64 Sb, CSh.o65 Sb, CSh.o67 Sb, CSh.o68 Sb, CSh.o69 Sb, CSh.o71 Sb, CSh.o72 Sb, CSh.o73 Sb, CSh.o89 Sb, CSh.o90 Sb, CSh.o91 Sb, CSh.l1 Sb, CSh.l3 Sb, CSh.l27 Sb, CSh.l29 Sb, CSh.l30 Sb, CSh.l56 Sb, CSh.l57 Sb, CSh.l58 Sb, CSh.l75 Sb, CSh.l77 Sb, CSh.l79 Sb, CSh.l81 Sb, CSh.l82 Sb, CSh.l83 Sb, CSh.l84 Sb, CSh.l85 Sb, CSh.l86 Sb, CSh.l87 Sb, CSh.l88 Sb, CSh.l54 Sb, CSh.l55 Sb, CSh.l60 Sb, CSh.l61 Sb, CSh.l64 Sb, CSh.l65 Sb, CSh.l68 Sb, CSh.l69 Sb, CSh.l72 Sb, CSh.l73 Sb, CSh.l90 Sb, CSh.l91 Sb, CSh.p0_0 Sb, CSh.p0_3 Sb, CSh.p0_4 Sb, CSh.p0_5 Sb, CSh.p0_6 Sb, CSh.p0_7 Sb, CSh.p0_8 Sb, CSh.p0_9 Sb, CSh.p0_10 Sb, CSh.p0_14 Sb, CSh.p2_0 Sb, CSh.p26_0 Sb, CSh.p26_13 Sb, CSh.p26_14 Sb, CSh.p31_1 Sb, CSh.p31_3 Sb, CSh.p31_4 Sb, CSh.p62_0 Sb, CSh.p66_0 Sb, CSh.p70_0 Sb, CSh.p74_0 Sb, CSh.p74_1 Sb, CSh.p74_6 Sb, CSh.p74_7 Sb, CSh.p74_10 Sb, CSh.p80_1 Sb, CSh.p80_2 Sb, CSh.p80_3 Sb, CSh.p80_4 Sb, CSh.p80_5 Sb, CSh.p80_6 Sb, CSh.p80_7 Sb, CSh.p80_8 Sb, CSh.p53_1 Sb, CSh.p53_2 Sb, CSh.p59_1 Sb, CSh.p59_2 Sb, CSh.p63_1 Sb, CSh.p63_2 Sb, CSh.p67_1 Sb, CSh.p67_2 Sb, CSh.p71_1 Sb, CSh.p71_2 Sb, CSh.p89_1 Sb, CSh.p89_2 Sb, fd0, fd1, fd2, fd3, fd4, fd5, fd6, fd7, fd8, fd9, fd10, fd11, fd12, fd13, fd14, fd15, fd16, fd17, fd18, fd19, fd20, fd21, fd22, fd23, fd24, fd25, fd26, fd27, fd28, fd29, fd30, fd31, fd32, fd33, fd34, fd35, fd36, fd37, fd38, fd39, fd40, fd41, fd42, fd43, fd44, fd45, fd46, fd47, fd48, fd49, fd50, fd51, fd52, Qa, Qb, -Int.reduceToNat, -Int32.reduceToNatClampNeg, il0, il1, il2, il3, il4, il5, il6, il7, il8, il9, il10, il11, il12, il13, il14, il15, il16, il17, il18, il19, il20, il21, il22, il23, il24, il25, il26, il27, il28, il29, il30, il31, il32, il35, il36, il38, il40, il42, il43, il44, il45, il46, il47, il48, il49, il50, il51, il52, il57, il59, il60, il63, il64, il75, il80, il95, il96, il97, il98, il99, il100, il120, il122, il123, il127, il128, il135, il167, il175, il225, il249, il250, il255, il256, il360, il370, il384, il600, il700, il740, il900, il940, il1024, il1600, il4800, il64000, il125000, il262143, il1000000000, iI_toInt, iI_add, iI_sub, iI_mul, iI_neg, iI_lt, iI_le, iI_eq, iI_n, iI_in, iI_div, iI_mod, iI_shm, iI_and1, iI_and7, iI_and63, iI_shr3, iI_shr6, rd_I, ob, Option.some.injEq, exists_eq_left', exists_eq_left, true_and, and_true, fqI, fqJ, eq_self, true_or, or_true, bP_0, bP_0i, npP, bP_1i, bP_b, not_true_eq_false, not_false_eq_true, false_implies, true_implies, implies_true, Classical.not_not, and_self, cP, cP', ite_n]
      by_cases ce : w = s (250 + 2 * b)
      · rw [ite_t ce]
        exact kw' hb G1 N1 S1 Cb R66 (fun p => p.1 ce)
      rw [ite_f ce]
      have A2 : actOk s w (s (250 + 2 * b + 1)) := ⟨by omega, fun _ => A.2.1 (by have := A.1; omega), fun p => by omega⟩
      refine c_step Cb hG (Or.inr (Or.inr rfl)) R70 Jg (by omega) cq A2 fun hc fc Rc => ?_
      have Cc := Cb.gr fc.gr (fun a ha => by simp at ha; omega) (fun a ha => by simp at ha; omega) List.not_mem_nil
      have R66c := R66.oth fc
      have G2 : Gr [66, 68, 70, 72] [69, 73] [(67, 0), (71, 0)] h hc := G1.trans (fc.gr.mono (by simp) (by simp) (by simp) (by simp [DynP]))
      have N2 : aN hc = aN h := by rw [fc.1, N1]
      have S2 : aS hc = aS h := by rw [fc.2.1, S1]
      have Sc := Cc.1
      rw [bP_0i]
      by_cases cw : stW s q (pfx s q b).2 w (s (250 + 2 * b + 1)) = 0
      case neg =>
        rw [ite_t cw]
        exact kw' hc G2 N2 S2 Cc R66c (fun p => cw p.2.2.1)
      rw [ite_f (fun p => p cw)]
      simp (disch := omega) only [CSh.o0 Sc, CSh.o1 Sc, CSh.o2 Sc, CSh.o3 Sc, CSh.o26 Sc, CSh.o27 Sc, CSh.o29 Sc, CSh.o30 Sc, CSh.o31 Sc, CSh.o56 Sc, CSh.o57 Sc, CSh.o58 Sc, CSh.o62 Sc, CSh.o66 Sc, CSh.o70 Sc, CSh.o74 Sc, CSh.o75 Sc, CSh.o77 Sc, CSh.o79 Sc, CSh.o80 Sc, CSh.o81 Sc, CSh.o82 Sc, CSh.o83 Sc, CSh.o84 Sc, CSh.o85 Sc, CSh.o86 Sc, CSh.o87 Sc, CSh.o88 Sc, CSh.o53 Sc, CSh.o54 Sc, CSh.o55 Sc, CSh.o59 Sc, CSh.o60 Sc, CSh.o61 Sc, CSh.o63 Sc, CSh.o64 Sc, CSh.o65 Sc, CSh.o67 Sc, CSh.o68 Sc, CSh.o69 Sc, CSh.o71 Sc, CSh.o72 Sc, CSh.o73 Sc, CSh.o89 Sc, CSh.o90 Sc, CSh.o91 Sc, CSh.l1 Sc, CSh.l3 Sc, CSh.l27 Sc, CSh.l29 Sc, CSh.l30 Sc, CSh.l56 Sc, CSh.l57 Sc, CSh.l58 Sc, CSh.l75 Sc, CSh.l77 Sc, CSh.l79 Sc, CSh.l81 Sc, CSh.l82 Sc, CSh.l83 Sc, CSh.l84 Sc, CSh.l85 Sc, CSh.l86 Sc, CSh.l87 Sc, CSh.l88 Sc, CSh.l54 Sc, CSh.l55 Sc, CSh.l60 Sc, CSh.l61 Sc, CSh.l64 Sc, CSh.l65 Sc, CSh.l68 Sc, CSh.l69 Sc, CSh.l72 Sc, CSh.l73 Sc, CSh.l90 Sc, CSh.l91 Sc, CSh.p0_0 Sc, CSh.p0_3 Sc, CSh.p0_4 Sc, CSh.p0_5 Sc, CSh.p0_6 Sc, CSh.p0_7 Sc, CSh.p0_8 Sc, CSh.p0_9 Sc, CSh.p0_10 Sc, CSh.p0_14 Sc, CSh.p2_0 Sc, CSh.p26_0 Sc, CSh.p26_13 Sc, CSh.p26_14 Sc, CSh.p31_1 Sc, CSh.p31_3 Sc, CSh.p31_4 Sc, CSh.p62_0 Sc, CSh.p66_0 Sc, CSh.p70_0 Sc, CSh.p74_0 Sc, CSh.p74_1 Sc, CSh.p74_6 Sc, CSh.p74_7 Sc, CSh.p74_10 Sc, CSh.p80_1 Sc, CSh.p80_2 Sc, CSh.p80_3 Sc, CSh.p80_4 Sc, CSh.p80_5 Sc, CSh.p80_6 Sc, CSh.p80_7 Sc, CSh.p80_8 Sc, CSh.p53_1 Sc, CSh.p53_2 Sc, CSh.p59_1 Sc, CSh.p59_2 Sc, CSh.p63_1 Sc, CSh.p63_2 Sc, CSh.p67_1 Sc, CSh.p67_2 Sc, CSh.p71_1 Sc, CSh.p71_2 Sc, CSh.p89_1 Sc, CSh.p89_2 Sc, -Int.reduceToNat, -Int32.reduceToNatClampNeg, il0, il1, il2, il3, il4, il5, il6, il7, il8, il9, il10, il11, il12, il13, il14, il15, il16, il17, il18, il19, il20, il21, il22, il23, il24, il25, il26, il27, il28, il29, il30, il31, il32, il35, il36, il38, il40, il42, il43, il44, il45, il46, il47, il48, il49, il50, il51, il52, il57, il59, il60, il63, il64, il75, il80, il95, il96, il97, il98, il99, il100, il120, il122, il123, il127, il128, il135, il167, il175, il225, il249, il250, il255, il256, il360, il370, il384, il600, il700, il740, il900, il940, il1024, il1600, il4800, il64000, il125000, il262143, il1000000000, iI_toInt, iI_add, iI_sub, iI_mul, iI_neg, iI_lt, iI_le, iI_eq, iI_n, iI_in, iI_div, iI_mod, iI_shm, iI_and1, iI_and7, iI_and63, iI_shr3, iI_shr6, rd_I, ob, Option.some.injEq, exists_eq_left', exists_eq_left, true_and, and_true, fqI, fqJ, eq_self, true_or, or_true, bP_0, bP_0i, npP, bP_1i, bP_b, not_true_eq_false, not_false_eq_true, false_implies, true_implies, implies_true, Classical.not_not, and_self]
      have J2 := stJ_I (q := q) hG A2 Jg b1 cw
      refine c_runFrom hG (Or.inr (Or.inr rfl)) cq (s 249 - b - 1).toNat (b + 1) (b + 1) _ hc Cc Rc J2 (by omega) (by omega) (by omega) (by omega) fun hd fd Rd => ?_
      have re := runF_e (q := q) hG (s 249 - b - 1).toNat (b + 1) (b + 1) _ J2 (by omega) (by omega) (by omega) (by omega)
      have G3 : Gr [66, 68, 70, 72] [69, 73] [(67, 0), (71, 0)] h hd := G2.trans (fd.gr.mono (by simp) (by simp) (by simp) (by simp [DynP]))
      have N3 : aN hd = aN h := by rw [fd.1, N2]
      have S3 : aS hd = aS h := by rw [fd.2.1, S2]
      simp (disch := omega) only [-Int.reduceToNat, -Int32.reduceToNatClampNeg, il0, il1, il2, il3, il4, il5, il6, il7, il8, il9, il10, il11, il12, il13, il14, il15, il16, il17, il18, il19, il20, il21, il22, il23, il24, il25, il26, il27, il28, il29, il30, il31, il32, il35, il36, il38, il40, il42, il43, il44, il45, il46, il47, il48, il49, il50, il51, il52, il57, il59, il60, il63, il64, il75, il80, il95, il96, il97, il98, il99, il100, il120, il122, il123, il127, il128, il135, il167, il175, il225, il249, il250, il255, il256, il360, il370, il384, il600, il700, il740, il900, il940, il1024, il1600, il4800, il64000, il125000, il262143, il1000000000, iI_toInt, iI_add, iI_sub, iI_mul, iI_neg, iI_lt, iI_le, iI_eq, iI_n, iI_in, iI_div, iI_mod, iI_shm, iI_and1, iI_and7, iI_and63, iI_shr3, iI_shr6, rd_I, ob, Option.some.injEq, exists_eq_left', exists_eq_left, true_and, and_true, fqI, fqJ, eq_self, true_or, or_true, bP_0, bP_0i, npP, bP_1i, bP_b, not_true_eq_false, not_false_eq_true, false_implies, true_implies, implies_true, Classical.not_not, and_self]
      by_cases c : (runF s q (s 249 - b - 1).toNat (b + 1) (stJ s q (pfx s q b).2 w (s (250 + 2 * b + 1)))).1 = -1
      · rw [ite_t c]
        have := fin hd G3 N3 S3
        rw [inV_at cq b1 b2 hno c5 w1 w2 hnw ⟨ce, p1, cw, c⟩] at this
        exact this
      · rw [ite_f c]
        exact kw' hd G3 N3 S3 (Cc.gr fd.gr (fun a ha => by simp at ha; omega) (fun a ha => by simp at ha; omega) List.not_mem_nil) (R66c.oth fd) (fun p => c p.2.2.2)
    · intro m' g hg
      obtain ⟨gg, nN, nS, Cg, Rg, hnw⟩ := hg
      show wb_X11_instead_47 (wl_X11_instead_34 post m) (wl_X11_instead_47 (wl_X11_instead_34 post m) post m') g 0 (iI b) (iI 5) post
      unfold wb_X11_instead_47
      simp (disch := omega) only [-Int.reduceToNat, -Int32.reduceToNatClampNeg, il0, il1, il2, il3, il4, il5, il6, il7, il8, il9, il10, il11, il12, il13, il14, il15, il16, il17, il18, il19, il20, il21, il22, il23, il24, il25, il26, il27, il28, il29, il30, il31, il32, il35, il36, il38, il40, il42, il43, il44, il45, il46, il47, il48, il49, il50, il51, il52, il57, il59, il60, il63, il64, il75, il80, il95, il96, il97, il98, il99, il100, il120, il122, il123, il127, il128, il135, il167, il175, il225, il249, il250, il255, il256, il360, il370, il384, il600, il700, il740, il900, il940, il1024, il1600, il4800, il64000, il125000, il262143, il1000000000, iI_toInt, iI_add, iI_sub, iI_mul, iI_neg, iI_lt, iI_le, iI_eq, iI_n, iI_in, iI_div, iI_mod, iI_shm, iI_and1, iI_and7, iI_and63, iI_shr3, iI_shr6, rd_I, ob, Option.some.injEq, exists_eq_left', exists_eq_left, true_and, and_true, fqI, fqJ, eq_self, true_or, or_true, bP_0, bP_0i, npP, bP_1i, bP_b, not_true_eq_false, not_false_eq_true, false_implies, true_implies, implies_true, Classical.not_not, and_self, cP, cP', ite_n, ite_T, ite_F, ite_t, ite_f]
      refine ahead g gg nN nS Cg Rg ?_
      unfold inQ
      by_cases c5 : s (250 + 2 * b) = 5
      · rw [ite_t c5]
      · rw [ite_f c5]
        exact fstI_no _ 0 fun j j1 j2 => hnw j j1 (by omega)
  · intro m g hg
    obtain ⟨gg, nN, nS, Cg, Rg, p1, Jg, hno⟩ := hg
    obtain ⟨Sg, hlg, hpg, Hg, Lg, P1, P2⟩ := id Cg
    have P1 : rd g 31 2 = s 249 := P1
    show wb_X11_instead_34 (wl_X11_instead_34 post m) g 0 (iI (s 249)) post
    unfold wb_X11_instead_34
    simp (disch := omega) only [CSh.o0 Sg, CSh.o1 Sg, CSh.o2 Sg, CSh.o3 Sg, CSh.o26 Sg, CSh.o27 Sg, CSh.o29 Sg, CSh.o30 Sg, CSh.o31 Sg, CSh.o56 Sg, CSh.o57 Sg, CSh.o58 Sg, CSh.o62 Sg, CSh.o66 Sg, CSh.o70 Sg, CSh.o74 Sg, CSh.o75 Sg, CSh.o77 Sg, CSh.o79 Sg, CSh.o80 Sg, CSh.o81 Sg, CSh.o82 Sg, CSh.o83 Sg, CSh.o84 Sg, CSh.o85 Sg, CSh.o86 Sg, CSh.o87 Sg, CSh.o88 Sg, CSh.o53 Sg, CSh.o54 Sg, CSh.o55 Sg, CSh.o59 Sg, CSh.o60 Sg, CSh.o61 Sg, CSh.o63 Sg, CSh.o64 Sg, CSh.o65 Sg, CSh.o67 Sg, CSh.o68 Sg, CSh.o69 Sg, CSh.o71 Sg, CSh.o72 Sg, CSh.o73 Sg, CSh.o89 Sg, CSh.o90 Sg, CSh.o91 Sg, CSh.l1 Sg, CSh.l3 Sg, CSh.l27 Sg, CSh.l29 Sg, CSh.l30 Sg, CSh.l56 Sg, CSh.l57 Sg, CSh.l58 Sg, CSh.l75 Sg, CSh.l77 Sg, CSh.l79 Sg, CSh.l81 Sg, CSh.l82 Sg, CSh.l83 Sg, CSh.l84 Sg, CSh.l85 Sg, CSh.l86 Sg, CSh.l87 Sg, CSh.l88 Sg, CSh.l54 Sg, CSh.l55 Sg, CSh.l60 Sg, CSh.l61 Sg, CSh.l64 Sg, CSh.l65 Sg, CSh.l68 Sg, CSh.l69 Sg, CSh.l72 Sg, CSh.l73 Sg, CSh.l90 Sg, CSh.l91 Sg, CSh.p0_0 Sg, CSh.p0_3 Sg, CSh.p0_4 Sg, CSh.p0_5 Sg, CSh.p0_6 Sg, CSh.p0_7 Sg, CSh.p0_8 Sg, CSh.p0_9 Sg, CSh.p0_10 Sg, CSh.p0_14 Sg, CSh.p2_0 Sg, CSh.p26_0 Sg, CSh.p26_13 Sg, CSh.p26_14 Sg, CSh.p31_1 Sg, CSh.p31_3 Sg, CSh.p31_4 Sg, CSh.p62_0 Sg, CSh.p66_0 Sg, CSh.p70_0 Sg, CSh.p74_0 Sg, CSh.p74_1 Sg, CSh.p74_6 Sg, CSh.p74_7 Sg, CSh.p74_10 Sg, CSh.p80_1 Sg, CSh.p80_2 Sg, CSh.p80_3 Sg, CSh.p80_4 Sg, CSh.p80_5 Sg, CSh.p80_6 Sg, CSh.p80_7 Sg, CSh.p80_8 Sg, CSh.p53_1 Sg, CSh.p53_2 Sg, CSh.p59_1 Sg, CSh.p59_2 Sg, CSh.p63_1 Sg, CSh.p63_2 Sg, CSh.p67_1 Sg, CSh.p67_2 Sg, CSh.p71_1 Sg, CSh.p71_2 Sg, CSh.p89_1 Sg, CSh.p89_2 Sg, fd0, fd1, fd2, fd3, fd4, fd5, fd6, fd7, fd8, fd9, fd10, fd11, fd12, fd13, fd14, fd15, fd16, fd17, fd18, fd19, fd20, fd21, fd22, fd23, fd24, fd25, fd26, fd27, fd28, fd29, fd30, fd31, fd32, fd33, fd34, fd35, fd36, fd37, fd38, fd39, fd40, fd41, fd42, fd43, fd44, fd45, fd46, fd47, fd48, fd49, fd50, fd51, fd52, P1, -Int.reduceToNat, -Int32.reduceToNatClampNeg, il0, il1, il2, il3, il4, il5, il6, il7, il8, il9, il10, il11, il12, il13, il14, il15, il16, il17, il18, il19, il20, il21, il22, il23, il24, il25, il26, il27, il28, il29, il30, il31, il32, il35, il36, il38, il40, il42, il43, il44, il45, il46, il47, il48, il49, il50, il51, il52, il57, il59, il60, il63, il64, il75, il80, il95, il96, il97, il98, il99, il100, il120, il122, il123, il127, il128, il135, il167, il175, il225, il249, il250, il255, il256, il360, il370, il384, il600, il700, il740, il900, il940, il1024, il1600, il4800, il64000, il125000, il262143, il1000000000, iI_toInt, iI_add, iI_sub, iI_mul, iI_neg, iI_lt, iI_le, iI_eq, iI_n, iI_in, iI_div, iI_mod, iI_shm, iI_and1, iI_and7, iI_and63, iI_shr3, iI_shr6, rd_I, ob, Option.some.injEq, exists_eq_left', exists_eq_left, true_and, and_true, fqI, fqJ, eq_self, true_or, or_true, bP_0, bP_0i, npP, bP_1i, bP_b, not_true_eq_false, not_false_eq_true, false_implies, true_implies, implies_true, Classical.not_not, and_self, cP, cP', ite_n, ite_T, ite_F, ite_t, ite_f]
    have := fin g gg nN nS
    rw [inV_no cq hno] at this
    exact this
end PLANS
