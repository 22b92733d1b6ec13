/-! a PLAN run in the model -/
def MJ (h : AH) (s : Int → Int) (J : JS) : Prop := MSh h ∧ rd h 94 = s ∧ rd h 99 = J.1 ∧ rd h 100 = zC s ∧ rd h 92 28 = J.2.1.1 ∧ rd h 92 29 = J.2.1.2.1 ∧ rd h 92 30 = J.2.1.2.2 ∧ rd h 92 31 = J.2.2
def RJ (h h' : AH) : Prop := Fr [92, 99] [] [] h h' ∧ MF [28, 29, 30, 31] h h'
noncomputable def rnM (s : Int → Int) (q b hw : Int) : Nat → Int → JS → Int × JS
  | 0, _, J => (-1, J)
  | d + 1, i, J => iteP (i = b ∧ hw < 0) (rnM s q b hw d (i + 1) J) (iteP (stW s q J (if i = b then hw else s (250 + 2 * i)) (s (250 + 2 * i + 1)) = 0) (rnM s q b hw d (i + 1) (stJ s q J (if i = b then hw else s (250 + 2 * i)) (s (250 + 2 * i + 1)))) (i, stJ s q J (if i = b then hw else s (250 + 2 * i)) (s (250 + 2 * i + 1))))
section MRUN
variable {h h1 h2 h' : AH} {i la fr qa ac tr t2 : Nat} {postV : AH → Prop} {post : AH → Int32 → Prop} {a b c d r x y n sp sq w hh u hr how who one k f q hw : Int} {s t z T : Int → Int} {J : JS} {v : Int × Int × Int} {tk : Prop}
theorem MF.refl (is : List Int) : MF is h h := fun _ _ => rfl
theorem MF.trans {is : List Int} (p : MF is h h1) (q : MF is h1 h2) : MF is h h2 := fun j hj => (q j hj).trans (p j hj)
theorem RJ.refl (h : AH) : RJ h h := ⟨(Fr.refl h).mono (by simp) (by simp) (by simp), fun _ _ => rfl⟩
theorem RJ.trans (p : RJ h h1) (q : RJ h1 h2) : RJ h h2 := ⟨p.1.trans q.1, p.2.trans q.2⟩
theorem m_passes (R : MJ h s J) (hp : pvI n J.2.1) (hn : 0 ≤ n ∧ n ≤ 10000) (hq : 0 ≤ q ∧ q < 96) (ha : 0 ≤ a ∧ a ≤ 96)
    (k : ∀ h', RJ h h' → MJ h' s (J.1, psN tk q a.toNat J.2.1, J.2.2) → postV h') : wp_X12_passes h 92 (iI a) (iI q) (bP tk) postV := by
  obtain ⟨M, e94, e99, e100, v1, v2, v3, v4⟩ := R
  unfold wp_X12_passes
  refine lf_for (W := fun m (g : AH) j => wl_X12_passes_3 postV m g 92 (iI a) (iI q) (bP tk) (iI j)) (lo := 0) (hi := a) (fun j g => Fr [92] [] [] h g ∧ MF [28, 29, 30, 31] h g ∧ rd g 92 31 = J.2.2 ∧ (rd g 92 28, rd g 92 29, rd g 92 30) = psN tk q j.toNat J.2.1) (by omega) ?_ ?_ h ⟨(Fr.refl h).mono (by simp) (by simp) (by simp), fun _ _ => rfl, v4, by rw [v1, v2, v3]; rfl⟩
  · intro m g j j1 j2 hg kk
    obtain ⟨fg, mg, g4, gv⟩ := hg
    have pj := psN_I (tk := tk) (q := q) hp j.toNat
    rw [← gv] at pj
    obtain ⟨⟨x1, x2⟩, ⟨y1, y2⟩, ⟨u1, u2⟩, d⟩ := pj
    have x1 : 0 ≤ rd g 92 28 := x1
    have x2 : rd g 92 28 ≤ n + j.toNat := x2
    have y1 : 0 ≤ rd g 92 29 := y1
    have y2 : rd g 92 29 ≤ rd g 92 28 := y2
    have u1 : -1 ≤ rd g 92 30 := u1
    have u2 : rd g 92 30 ≤ rd g 92 28 := u2
    have d : rd g 92 29 = 0 ↔ rd g 92 30 = -1 := d
    have eN : (j + 1).toNat = j.toNat + 1 := by omega
    have Mg := M.fr fg
    show wb_X12_passes_3 (wl_X12_passes_3 postV m) g 92 (iI a) (iI q) (bP tk) (iI j) postV
    have tick : ∀ (g' : AH), Fr [92] [] [] h g' → MF [28, 29, 30, 31] h g' → rd g' 92 31 = J.2.2 → rd g' 92 28 = rd g 92 28 → (rd g 92 28 + 1, rd g' 92 29, rd g' 92 30) = ps1 tk q (rd g 92 28, rd g 92 29, rd g 92 30) → wb_X12_passes_64 (wl_X12_passes_3 postV m) g' 92 (iI a) (iI q) (bP tk) (iI j) postV := by
      intro g' f' m' q4 q2 qv
      have M' := M.fr f'
      unfold wb_X12_passes_64
      simp (disch := omega) only [MSh.o0 M', fd0, fd1, fd2, fd3, fd4, fd5, fd6, fd7, fd8, fd9, fd10, fd11, fd12, fd13, fd14, fd15, fd16, fd17, fd18, fd19, fd20, fd21, fd22, fd23, fd24, fd25, fd26, fd27, fd28, fd29, fd30, fd31, fd32, fd33, fd34, fd35, fd36, fd37, fd38, fd39, fd40, fd41, fd42, fd43, fd44, fd45, fd46, fd47, fd48, fd49, fd50, fd51, fd52, -Int.reduceToNat, -Int32.reduceToNatClampNeg, il0, il1, il2, il3, il4, il5, il6, il7, il8, il9, il10, il11, il12, il13, il14, il15, il16, il17, il18, il19, il20, il21, il22, il23, il24, il25, il26, il27, il28, il29, il30, il31, il32, il35, il36, il38, il40, il42, il43, il44, il45, il46, il47, il48, il49, il50, il51, il52, il57, il59, il60, il63, il64, il75, il80, il95, il96, il97, il98, il99, il100, il120, il122, il123, il127, il128, il135, il167, il175, il225, il249, il250, il255, il256, il360, il370, il384, il600, il700, il740, il900, il940, il1024, il1600, il4800, il64000, il125000, il262143, il1000000000, iI_toInt, iI_add, iI_sub, iI_mul, iI_neg, iI_lt, iI_le, iI_eq, iI_n, iI_in, iI_div, iI_mod, iI_shm, iI_and1, iI_and7, iI_and63, iI_shr3, iI_shr6, rd_I, ob, Option.some.injEq, exists_eq_left', exists_eq_left, true_and, and_true, fqI, fqJ, eq_self, true_or, or_true, bP_0, bP_0i, npP, bP_1i, bP_b, not_true_eq_false, not_false_eq_true, false_implies, true_implies, implies_true, Classical.not_not, and_self]
      intro g2 eg
      obtain ⟨f2, r2⟩ := wI (i := 28) (by omega) (by omega) (by omega) eg
      refine kk g2 ⟨f'.trans f2, fun j hj => ?_, by rw [r2, updT_n (by omega), q4], ?_⟩
      · rw [r2, updT_n (fun e => hj (by rw [e]; decide)), m' j hj]
      · rw [eN, psN_s, ← gv, ← qv, r2, updT_s, updT_n (by omega), updT_n (by omega), q2]
    unfold wb_X12_passes_3 wb_X12_passes_61
    have em : (q + rd g 92 28) - (q + rd g 92 28) / 96 * 96 = (q + rd g 92 28) % 96 := by omega
    simp (disch := omega) only [MSh.o0 Mg, fd0, fd1, fd2, fd3, fd4, fd5, fd6, fd7, fd8, fd9, fd10, fd11, fd12, fd13, fd14, fd15, fd16, fd17, fd18, fd19, fd20, fd21, fd22, fd23, fd24, fd25, fd26, fd27, fd28, fd29, fd30, fd31, fd32, fd33, fd34, fd35, fd36, fd37, fd38, fd39, fd40, fd41, fd42, fd43, fd44, fd45, fd46, fd47, fd48, fd49, fd50, fd51, fd52, -Int.reduceToNat, -Int32.reduceToNatClampNeg, il0, il1, il2, il3, il4, il5, il6, il7, il8, il9, il10, il11, il12, il13, il14, il15, il16, il17, il18, il19, il20, il21, il22, il23, il24, il25, il26, il27, il28, il29, il30, il31, il32, il35, il36, il38, il40, il42, il43, il44, il45, il46, il47, il48, il49, il50, il51, il52, il57, il59, il60, il63, il64, il75, il80, il95, il96, il97, il98, il99, il100, il120, il122, il123, il127, il128, il135, il167, il175, il225, il249, il250, il255, il256, il360, il370, il384, il600, il700, il740, il900, il940, il1024, il1600, il4800, il64000, il125000, il262143, il1000000000, iI_toInt, iI_add, iI_sub, iI_mul, iI_neg, iI_lt, iI_le, iI_eq, iI_n, iI_in, iI_div, iI_mod, iI_shm, iI_and1, iI_and7, iI_and63, iI_shr3, iI_shr6, rd_I, ob, Option.some.injEq, exists_eq_left', exists_eq_left, true_and, and_true, fqI, fqJ, eq_self, true_or, or_true, bP_0, bP_0i, npP, bP_1i, bP_b, not_true_eq_false, not_false_eq_true, false_implies, true_implies, implies_true, Classical.not_not, and_self, cP, cP', ite_n, ite_f, m_isIn, em]
    by_cases cb : tk
    case neg =>
      rw [ite_f cb]
      exact tick g fg mg g4 rfl (by unfold ps1; rw [ite_f (fun p => cb p.1)])
    rw [ite_t cb]
    by_cases cn : (q + rd g 92 28) / 4 % 24 = 12
    case neg =>
      rw [ite_f (by omega)]
      exact tick g fg mg g4 rfl (by unfold ps1; rw [ite_f (fun p => cn p.2)])
    rw [ite_t (by omega)]
    intro g2 eg
    obtain ⟨f2, r2⟩ := wI (i := 29) (by omega) (by omega) (by omega) eg
    have F2 := fg.trans f2
    have M2 := M.fr F2
    have g30 : rd g2 92 30 = rd g 92 30 := by rw [r2, updT_n (by omega)]
    have g28 : rd g2 92 28 = rd g 92 28 := by rw [r2, updT_n (by omega)]
    have m2 : MF [28, 29, 30, 31] h g2 := fun j hj => by rw [r2, updT_n (fun e => hj (by rw [e]; decide)), mg j hj]
    have fin : ∀ v : Int, -1 ≤ v → v ≤ 20000 → v = (if rd g 92 29 = 0 then rd g 92 28 else rd g 92 30) → ∀ g3, g3 = hI g2 92 30 (iI v) → wb_X12_passes_64 (wl_X12_passes_3 postV m) g3 92 (iI a) (iI q) (bP tk) (iI j) postV := by
      intro v q1 q2 qv g3 e3
      obtain ⟨f3, r3⟩ := wI (i := 30) (by omega) (by omega) (by omega) e3
      refine tick g3 (F2.trans f3) (fun j hj => by rw [r3, updT_n (fun e => hj (by rw [e]; decide)), m2 j hj]) ?_ ?_ ?_
      · rw [r3, updT_n (by omega), r2, updT_n (by omega), g4]
      · rw [r3, updT_n (by omega), g28]
      · unfold ps1
        rw [ite_t ⟨cb, cn⟩, r3, updT_s, updT_n (by omega), r2, updT_s, qv]
    simp (disch := omega) only [MSh.o0 M2, fd0, fd1, fd2, fd3, fd4, fd5, fd6, fd7, fd8, fd9, fd10, fd11, fd12, fd13, fd14, fd15, fd16, fd17, fd18, fd19, fd20, fd21, fd22, fd23, fd24, fd25, fd26, fd27, fd28, fd29, fd30, fd31, fd32, fd33, fd34, fd35, fd36, fd37, fd38, fd39, fd40, fd41, fd42, fd43, fd44, fd45, fd46, fd47, fd48, fd49, fd50, fd51, fd52, g30, g28, -Int.reduceToNat, -Int32.reduceToNatClampNeg, il0, il1, il2, il3, il4, il5, il6, il7, il8, il9, il10, il11, il12, il13, il14, il15, il16, il17, il18, il19, il20, il21, il22, il23, il24, il25, il26, il27, il28, il29, il30, il31, il32, il35, il36, il38, il40, il42, il43, il44, il45, il46, il47, il48, il49, il50, il51, il52, il57, il59, il60, il63, il64, il75, il80, il95, il96, il97, il98, il99, il100, il120, il122, il123, il127, il128, il135, il167, il175, il225, il249, il250, il255, il256, il360, il370, il384, il600, il700, il740, il900, il940, il1024, il1600, il4800, il64000, il125000, il262143, il1000000000, iI_toInt, iI_add, iI_sub, iI_mul, iI_neg, iI_lt, iI_le, iI_eq, iI_n, iI_in, iI_div, iI_mod, iI_shm, iI_and1, iI_and7, iI_and63, iI_shr3, iI_shr6, rd_I, ob, Option.some.injEq, exists_eq_left', exists_eq_left, true_and, and_true, fqI, fqJ, eq_self, true_or, or_true, bP_0, bP_0i, npP, bP_1i, bP_b, not_true_eq_false, not_false_eq_true, false_implies, true_implies, implies_true, Classical.not_not, and_self, cP, cP', ite_n]
    by_cases c0 : 0 ≤ rd g 92 30
    · rw [ite_t c0]
      exact fin _ (by omega) (by omega) (by rw [if_neg (by omega)])
    · rw [ite_f c0]
      exact fin _ (by omega) (by omega) (by rw [if_pos (by omega)])
  · intro m g hg
    obtain ⟨fg, mg, g4, gv⟩ := hg
    show wb_X12_passes_3 (wl_X12_passes_3 postV m) g 92 (iI a) (iI q) (bP tk) (iI a) postV
    unfold wb_X12_passes_3
    simp (disch := omega) only [-Int.reduceToNat, -Int32.reduceToNatClampNeg, il0, il1, il2, il3, il4, il5, il6, il7, il8, il9, il10, il11, il12, il13, il14, il15, il16, il17, il18, il19, il20, il21, il22, il23, il24, il25, il26, il27, il28, il29, il30, il31, il32, il35, il36, il38, il40, il42, il43, il44, il45, il46, il47, il48, il49, il50, il51, il52, il57, il59, il60, il63, il64, il75, il80, il95, il96, il97, il98, il99, il100, il120, il122, il123, il127, il128, il135, il167, il175, il225, il249, il250, il255, il256, il360, il370, il384, il600, il700, il740, il900, il940, il1024, il1600, il4800, il64000, il125000, il262143, il1000000000, iI_toInt, iI_add, iI_sub, iI_mul, iI_neg, iI_lt, iI_le, iI_eq, iI_n, iI_in, iI_div, iI_mod, iI_shm, iI_and1, iI_and7, iI_and63, iI_shr3, iI_shr6, rd_I, ob, Option.some.injEq, exists_eq_left', exists_eq_left, true_and, and_true, fqI, fqJ, eq_self, true_or, or_true, bP_0, bP_0i, npP, bP_1i, bP_b, not_true_eq_false, not_false_eq_true, false_implies, true_implies, implies_true, Classical.not_not, and_self, cP, cP', ite_n, ite_T, ite_F, ite_t, ite_f]
    refine k g ⟨fg.mono (by simp) (by simp) (by simp), mg⟩ ⟨M.fr fg, by rw [fg.row (by decide), e94], by rw [fg.row (by decide), e99], by rw [fg.row (by decide), e100], ?_, ?_, ?_, g4⟩
    · exact congrArg (fun v : Int × Int × Int => v.1) gv
    · exact congrArg (fun v : Int × Int × Int => v.2.1) gv
    · exact congrArg (fun v : Int × Int × Int => v.2.2) gv
theorem m_act1 {K : AH → Nat → Int32 → Int32 → Int32 → Int32 → Prop} {X2 X3 : Int32} (R : MJ h s J) (hG : GA s) (hJ : JI s n J) (hn : 0 ≤ n ∧ n ≤ 100) (hq : 0 ≤ q ∧ q < 96) (h1 : 0 ≤ a) (h2 : a < s 249) (hA : actOk s how (s (250 + 2 * a + 1)))
    (k1 : ∀ h', stW s q J how (s (250 + 2 * a + 1)) = 0 → RJ h h' → MJ h' s (stJ s q J how (s (250 + 2 * a + 1))) → K h' 92 (iI q) X2 X3 (iI (a + 1))) (k0 : ∀ h', ¬ stW s q J how (s (250 + 2 * a + 1)) = 0 → RJ h h' → MJ h' s (stJ s q J how (s (250 + 2 * a + 1))) → post h' (iI a)) : wb_X12_run_76 K h 92 (iI q) X2 X3 (iI a) (iI how) post := by
  have bd := hG.bd
  have R0 := R
  obtain ⟨M, e94, e99, e100, v1, v2, v3, v4⟩ := R
  obtain ⟨a1, a2, a3⟩ := hA
  obtain ⟨V, pp, w0, z0, o0⟩ := id hJ
  have pp' := pp
  obtain ⟨⟨x1, x2⟩, ⟨y1, y2⟩, ⟨u1, u2⟩, d⟩ := pp'
  have wb0 := hG.sb (250 + 2 * a + 1) (by omega) (by omega)
  have hA' : ∀ o, 0 ≤ o → o < rd h 94 2 → RBd (rd h 99) (rd h 100) o := fun o p1 p2 => by
    rw [e99, e100]
    rw [e94] at p2
    exact RBd.of (V o p1 p2).1.P1 (hG.z1 p1 p2)
  unfold wb_X12_run_76
  simp (disch := omega) only [MSh.o0 M, MSh.p1 M, MSh.o1 M, MSh.l1 M, MSh.p6 M, MSh.o2 M, MSh.l2 M, MSh.p7 M, MSh.o3 M, MSh.l3 M, MSh.p8 M, MSh.o4 M, MSh.l4 M, MSh.p9 M, MSh.o5 M, MSh.l5 M, MSh.p10 M, MSh.o6 M, MSh.l6 M, MSh.p24 M, MSh.o7 M, MSh.l7 M, MSh.p25 M, MSh.o8 M, MSh.l8 M, MSh.p26 M, MSh.o9 M, MSh.l9 M, MSh.p32 M, MSh.o10 M, MSh.l10 M, MSh.p33 M, MSh.o11 M, MSh.l11 M, MSh.p35 M, MSh.o12 M, MSh.l12 M, MSh.p36 M, MSh.o13 M, MSh.l13 M, MSh.p37 M, MSh.o14 M, MSh.l14 M, MSh.p38 M, MSh.o15 M, MSh.l15 M, MSh.p39 M, MSh.o16 M, MSh.l16 M, MSh.p42 M, MSh.o17 M, MSh.l17 M, MSh.p43 M, MSh.o18 M, MSh.l18 M, MSh.p44 M, MSh.o19 M, MSh.l19 M, MSh.p45 M, MSh.o20 M, MSh.l20 M, MSh.p46 M, MSh.o21 M, MSh.l21 M, MSh.p47 M, MSh.o22 M, MSh.l22 M, MSh.p50 M, MSh.o23 M, MSh.l23 M, MSh.p51 M, MSh.o24 M, MSh.l24 M, MSh.p52 M, MSh.o25 M, MSh.l25 M, e94, -Int.reduceToNat, -Int32.reduceToNatClampNeg, il0, il1, il2, il3, il4, il5, il6, il7, il8, il9, il10, il11, il12, il13, il14, il15, il16, il17, il18, il19, il20, il21, il22, il23, il24, il25, il26, il27, il28, il29, il30, il31, il32, il35, il36, il38, il40, il42, il43, il44, il45, il46, il47, il48, il49, il50, il51, il52, il57, il59, il60, il63, il64, il75, il80, il95, il96, il97, il98, il99, il100, il120, il122, il123, il127, il128, il135, il167, il175, il225, il249, il250, il255, il256, il360, il370, il384, il600, il700, il740, il900, il940, il1024, il1600, il4800, il64000, il125000, il262143, il1000000000, iI_toInt, iI_add, iI_sub, iI_mul, iI_neg, iI_lt, iI_le, iI_eq, iI_n, iI_in, iI_div, iI_mod, iI_shm, iI_and1, iI_and7, iI_and63, iI_shr3, iI_shr6, rd_I, ob, Option.some.injEq, exists_eq_left', exists_eq_left, true_and, and_true, fqI, fqJ, eq_self, true_or, or_true, bP_0, bP_0i, npP, bP_1i, bP_b, not_true_eq_false, not_false_eq_true, false_implies, true_implies, implies_true, Classical.not_not, and_self]
  rw [m_isBusyTown M (by rw [e94]; exact hG.sb) (by rw [e94]; omega) hA', e94, e99, e100]
  simp (disch := omega) only [MSh.o0 M, MSh.p1 M, MSh.o1 M, MSh.l1 M, MSh.p6 M, MSh.o2 M, MSh.l2 M, MSh.p7 M, MSh.o3 M, MSh.l3 M, MSh.p8 M, MSh.o4 M, MSh.l4 M, MSh.p9 M, MSh.o5 M, MSh.l5 M, MSh.p10 M, MSh.o6 M, MSh.l6 M, MSh.p24 M, MSh.o7 M, MSh.l7 M, MSh.p25 M, MSh.o8 M, MSh.l8 M, MSh.p26 M, MSh.o9 M, MSh.l9 M, MSh.p32 M, MSh.o10 M, MSh.l10 M, MSh.p33 M, MSh.o11 M, MSh.l11 M, MSh.p35 M, MSh.o12 M, MSh.l12 M, MSh.p36 M, MSh.o13 M, MSh.l13 M, MSh.p37 M, MSh.o14 M, MSh.l14 M, MSh.p38 M, MSh.o15 M, MSh.l15 M, MSh.p39 M, MSh.o16 M, MSh.l16 M, MSh.p42 M, MSh.o17 M, MSh.l17 M, MSh.p43 M, MSh.o18 M, MSh.l18 M, MSh.p44 M, MSh.o19 M, MSh.l19 M, MSh.p45 M, MSh.o20 M, MSh.l20 M, MSh.p46 M, MSh.o21 M, MSh.l21 M, MSh.p47 M, MSh.o22 M, MSh.l22 M, MSh.p50 M, MSh.o23 M, MSh.l23 M, MSh.p51 M, MSh.o24 M, MSh.l24 M, MSh.p52 M, MSh.o25 M, MSh.l25 M, fd0, fd1, fd2, fd3, fd4, fd5, fd6, fd7, fd8, fd9, fd10, fd11, fd12, fd13, fd14, fd15, fd16, fd17, fd18, fd19, fd20, fd21, fd22, fd23, fd24, fd25, fd26, fd27, fd28, fd29, fd30, fd31, fd32, fd33, fd34, fd35, fd36, fd37, fd38, fd39, fd40, fd41, fd42, fd43, fd44, fd45, fd46, fd47, fd48, fd49, fd50, fd51, fd52, v1, -Int.reduceToNat, -Int32.reduceToNatClampNeg, il0, il1, il2, il3, il4, il5, il6, il7, il8, il9, il10, il11, il12, il13, il14, il15, il16, il17, il18, il19, il20, il21, il22, il23, il24, il25, il26, il27, il28, il29, il30, il31, il32, il35, il36, il38, il40, il42, il43, il44, il45, il46, il47, il48, il49, il50, il51, il52, il57, il59, il60, il63, il64, il75, il80, il95, il96, il97, il98, il99, il100, il120, il122, il123, il127, il128, il135, il167, il175, il225, il249, il250, il255, il256, il360, il370, il384, il600, il700, il740, il900, il940, il1024, il1600, il4800, il64000, il125000, il262143, il1000000000, iI_toInt, iI_add, iI_sub, iI_mul, iI_neg, iI_lt, iI_le, iI_eq, iI_n, iI_in, iI_div, iI_mod, iI_shm, iI_and1, iI_and7, iI_and63, iI_shr3, iI_shr6, rd_I, ob, Option.some.injEq, exists_eq_left', exists_eq_left, true_and, and_true, fqI, fqJ, eq_self, true_or, or_true, bP_0, bP_0i, npP, bP_1i, bP_b, not_true_eq_false, not_false_eq_true, false_implies, true_implies, implies_true, Classical.not_not, and_self, cP, cP', ite_n]
  by_cases c5 : how = 5
  · rw [ite_t c5]
    subst c5
    have w96 := a3 rfl
    have eW : stW s q J 5 (s (250 + 2 * a + 1)) = 0 := by unfold stW; rw [ite_t rfl]
    have eJ : stJ s q J 5 (s (250 + 2 * a + 1)) = (J.1, psN (busT s J.1 (zC s)) q (s (250 + 2 * a + 1)).toNat J.2.1, J.2.2) := by unfold stJ; rw [ite_t rfl]
    refine m_passes R0 pp (by omega) hq (by omega) fun h' f' R' => ?_
    unfold wb_X12_run_160
    intro iv ev
    rw [ev, il1, iI_add]
    exact k1 h' eW f' (by rw [eJ]; exact R')
  rw [ite_f c5]
  obtain ⟨w1, w2⟩ := a2 (by omega)
  have eW : stW s q J how (s (250 + 2 * a + 1)) = whyT s J.1 (zC s) (s (250 + 2 * a + 1)) how ((q + J.2.1.1) / 4 % 24) := by unfold stW; rw [ite_f c5]
  have em : (q + J.2.1.1) / 4 - (q + J.2.1.1) / 4 / 24 * 24 = (q + J.2.1.1) / 4 % 24 := by omega
  have wb := why_bd (s := s) (t := J.1) (z := zC s) (r := s (250 + 2 * a + 1)) (how := how) (hr := (q + J.2.1.1) / 4 % 24)
  rw [em]
  refine m_moves M (by rw [e94]; exact hG.1.1) w1 (by rw [e94]; exact w2) a1.1 (by omega) (by omega) (by omega) (fun o p1 p2 => by rw [e99]; rw [e94] at p2; exact (V o p1 p2).1.P1) (fun o p1 p2 => by rw [e100]; rw [e94] at p2; exact hG.z1 p1 p2) (by rw [e99, e100]; exact in8_of bd.1.2 bd.2.1.2 (V _ w1 w2).2.1) (fun h3 c0 f3 e3 => ?_) (fun h3 c0 f3 e3 => ?_)
  · rw [e94, e99, e100] at c0 e3
    have M3 := M.fr f3
    refine ⟨M3.o0, fun h4 e4 => ?_⟩
    obtain ⟨f4, r4⟩ := wI (i := 31) (v := 0) (by omega) (by omega) (by omega) e4
    have M4 := M3.fr f4
    have r92 : rd h4 92 31 = 0 := by rw [r4, updT_s]
    simp (disch := omega) only [MSh.o0 M4, MSh.p1 M4, MSh.o1 M4, MSh.l1 M4, MSh.p6 M4, MSh.o2 M4, MSh.l2 M4, MSh.p7 M4, MSh.o3 M4, MSh.l3 M4, MSh.p8 M4, MSh.o4 M4, MSh.l4 M4, MSh.p9 M4, MSh.o5 M4, MSh.l5 M4, MSh.p10 M4, MSh.o6 M4, MSh.l6 M4, MSh.p24 M4, MSh.o7 M4, MSh.l7 M4, MSh.p25 M4, MSh.o8 M4, MSh.l8 M4, MSh.p26 M4, MSh.o9 M4, MSh.l9 M4, MSh.p32 M4, MSh.o10 M4, MSh.l10 M4, MSh.p33 M4, MSh.o11 M4, MSh.l11 M4, MSh.p35 M4, MSh.o12 M4, MSh.l12 M4, MSh.p36 M4, MSh.o13 M4, MSh.l13 M4, MSh.p37 M4, MSh.o14 M4, MSh.l14 M4, MSh.p38 M4, MSh.o15 M4, MSh.l15 M4, MSh.p39 M4, MSh.o16 M4, MSh.l16 M4, MSh.p42 M4, MSh.o17 M4, MSh.l17 M4, MSh.p43 M4, MSh.o18 M4, MSh.l18 M4, MSh.p44 M4, MSh.o19 M4, MSh.l19 M4, MSh.p45 M4, MSh.o20 M4, MSh.l20 M4, MSh.p46 M4, MSh.o21 M4, MSh.l21 M4, MSh.p47 M4, MSh.o22 M4, MSh.l22 M4, MSh.p50 M4, MSh.o23 M4, MSh.l23 M4, MSh.p51 M4, MSh.o24 M4, MSh.l24 M4, MSh.p52 M4, MSh.o25 M4, MSh.l25 M4, fd0, fd1, fd2, fd3, fd4, fd5, fd6, fd7, fd8, fd9, fd10, fd11, fd12, fd13, fd14, fd15, fd16, fd17, fd18, fd19, fd20, fd21, fd22, fd23, fd24, fd25, fd26, fd27, fd28, fd29, fd30, fd31, fd32, fd33, fd34, fd35, fd36, fd37, fd38, fd39, fd40, fd41, fd42, fd43, fd44, fd45, fd46, fd47, fd48, fd49, fd50, fd51, fd52, r92, -Int.reduceToNat, -Int32.reduceToNatClampNeg, il0, il1, il2, il3, il4, il5, il6, il7, il8, il9, il10, il11, il12, il13, il14, il15, il16, il17, il18, il19, il20, il21, il22, il23, il24, il25, il26, il27, il28, il29, il30, il31, il32, il35, il36, il38, il40, il42, il43, il44, il45, il46, il47, il48, il49, il50, il51, il52, il57, il59, il60, il63, il64, il75, il80, il95, il96, il97, il98, il99, il100, il120, il122, il123, il127, il128, il135, il167, il175, il225, il249, il250, il255, il256, il360, il370, il384, il600, il700, il740, il900, il940, il1024, il1600, il4800, il64000, il125000, il262143, il1000000000, iI_toInt, iI_add, iI_sub, iI_mul, iI_neg, iI_lt, iI_le, iI_eq, iI_n, iI_in, iI_div, iI_mod, iI_shm, iI_and1, iI_and7, iI_and63, iI_shr3, iI_shr6, rd_I, ob, Option.some.injEq, exists_eq_left', exists_eq_left, true_and, and_true, fqI, fqJ, eq_self, true_or, or_true, bP_0, bP_0i, npP, bP_1i, bP_b, not_true_eq_false, not_false_eq_true, false_implies, true_implies, implies_true, Classical.not_not, and_self, cP, cP', ite_n, ite_T, ite_F, ite_t, ite_f]
    have R4 : MJ h4 s (candT s J.1 (zC s) (s (250 + 2 * a + 1)) how, J.2.1, J.2.2) := by
      refine ⟨M4, by rw [f4.row (by decide), f3.row (by decide), e94], by rw [f4.row (by decide), e3], by rw [f4.row (by decide), f3.row (by decide), e100], ?_, ?_, ?_, ?_⟩
      · rw [r4, updT_n (by omega), f3.row (by decide)]; exact v1
      · rw [r4, updT_n (by omega), f3.row (by decide)]; exact v2
      · rw [r4, updT_n (by omega), f3.row (by decide)]; exact v3
      · rw [r92]; exact w0.symm
    have q4 : RJ h h4 := ⟨(f3.mono (by simp) (by simp) (by simp)).trans (f4.mono (by simp) (by simp) (by simp)), fun j hj => by rw [r4, updT_n (fun e => hj (by rw [e]; decide)), f3.row (by decide)]⟩
    have eJ : stJ s q J how (s (250 + 2 * a + 1)) = (candT s J.1 (zC s) (s (250 + 2 * a + 1)) how, psN (busT s J.1 (zC s)) q 1 J.2.1, J.2.2) := by
      unfold stJ
      rw [ite_f c5, ite_t (by rw [eW]; exact c0)]
    refine m_passes (a := 1) R4 pp (by omega) hq (by omega) fun h5 f5 R5 => ?_
    unfold wb_X12_run_160
    intro iv ev
    rw [ev, il1, iI_add]
    exact k1 h5 (by rw [eW]; exact c0) (q4.trans f5) (by rw [eJ]; exact R5)
  · rw [e94, e99, e100] at c0 ⊢
    have M3 := M.fr f3
    refine ⟨M3.o0, fun h4 e4 => ?_⟩
    obtain ⟨f4, r4⟩ := wI (i := 31) (by omega) (by omega) (by omega) e4
    have M4 := M3.fr f4
    have r92 : rd h4 92 31 = whyT s J.1 (zC s) (s (250 + 2 * a + 1)) how ((q + J.2.1.1) / 4 % 24) := by rw [r4, updT_s]
    simp (disch := omega) only [MSh.o0 M4, MSh.p1 M4, MSh.o1 M4, MSh.l1 M4, MSh.p6 M4, MSh.o2 M4, MSh.l2 M4, MSh.p7 M4, MSh.o3 M4, MSh.l3 M4, MSh.p8 M4, MSh.o4 M4, MSh.l4 M4, MSh.p9 M4, MSh.o5 M4, MSh.l5 M4, MSh.p10 M4, MSh.o6 M4, MSh.l6 M4, MSh.p24 M4, MSh.o7 M4, MSh.l7 M4, MSh.p25 M4, MSh.o8 M4, MSh.l8 M4, MSh.p26 M4, MSh.o9 M4, MSh.l9 M4, MSh.p32 M4, MSh.o10 M4, MSh.l10 M4, MSh.p33 M4, MSh.o11 M4, MSh.l11 M4, MSh.p35 M4, MSh.o12 M4, MSh.l12 M4, MSh.p36 M4, MSh.o13 M4, MSh.l13 M4, MSh.p37 M4, MSh.o14 M4, MSh.l14 M4, MSh.p38 M4, MSh.o15 M4, MSh.l15 M4, MSh.p39 M4, MSh.o16 M4, MSh.l16 M4, MSh.p42 M4, MSh.o17 M4, MSh.l17 M4, MSh.p43 M4, MSh.o18 M4, MSh.l18 M4, MSh.p44 M4, MSh.o19 M4, MSh.l19 M4, MSh.p45 M4, MSh.o20 M4, MSh.l20 M4, MSh.p46 M4, MSh.o21 M4, MSh.l21 M4, MSh.p47 M4, MSh.o22 M4, MSh.l22 M4, MSh.p50 M4, MSh.o23 M4, MSh.l23 M4, MSh.p51 M4, MSh.o24 M4, MSh.l24 M4, MSh.p52 M4, MSh.o25 M4, MSh.l25 M4, fd0, fd1, fd2, fd3, fd4, fd5, fd6, fd7, fd8, fd9, fd10, fd11, fd12, fd13, fd14, fd15, fd16, fd17, fd18, fd19, fd20, fd21, fd22, fd23, fd24, fd25, fd26, fd27, fd28, fd29, fd30, fd31, fd32, fd33, fd34, fd35, fd36, fd37, fd38, fd39, fd40, fd41, fd42, fd43, fd44, fd45, fd46, fd47, fd48, fd49, fd50, fd51, fd52, r92, -Int.reduceToNat, -Int32.reduceToNatClampNeg, il0, il1, il2, il3, il4, il5, il6, il7, il8, il9, il10, il11, il12, il13, il14, il15, il16, il17, il18, il19, il20, il21, il22, il23, il24, il25, il26, il27, il28, il29, il30, il31, il32, il35, il36, il38, il40, il42, il43, il44, il45, il46, il47, il48, il49, il50, il51, il52, il57, il59, il60, il63, il64, il75, il80, il95, il96, il97, il98, il99, il100, il120, il122, il123, il127, il128, il135, il167, il175, il225, il249, il250, il255, il256, il360, il370, il384, il600, il700, il740, il900, il940, il1024, il1600, il4800, il64000, il125000, il262143, il1000000000, iI_toInt, iI_add, iI_sub, iI_mul, iI_neg, iI_lt, iI_le, iI_eq, iI_n, iI_in, iI_div, iI_mod, iI_shm, iI_and1, iI_and7, iI_and63, iI_shr3, iI_shr6, rd_I, ob, Option.some.injEq, exists_eq_left', exists_eq_left, true_and, and_true, fqI, fqJ, eq_self, true_or, or_true, bP_0, bP_0i, npP, bP_1i, bP_b, not_true_eq_false, not_false_eq_true, false_implies, true_implies, implies_true, Classical.not_not, and_self, cP, cP', ite_n, ite_T, ite_F, ite_t, ite_f]
    have eJ : stJ s q J how (s (250 + 2 * a + 1)) = (J.1, J.2.1, whyT s J.1 (zC s) (s (250 + 2 * a + 1)) how ((q + J.2.1.1) / 4 % 24)) := by
      unfold stJ
      rw [ite_f c5, ite_f (by rw [eW]; exact c0), eW]
    refine k0 h4 (by rw [eW]; exact c0) ⟨(f3.mono (by simp) (by simp) (by simp)).trans (f4.mono (by simp) (by simp) (by simp)), fun j hj => by rw [r4, updT_n (fun e => hj (by rw [e]; decide)), f3.row (by decide)]⟩ ?_
    rw [eJ]
    refine ⟨M4, by rw [f4.row (by decide), f3.row (by decide), e94], by rw [f4.row (by decide), e3, e99], by rw [f4.row (by decide), f3.row (by decide), e100], ?_, ?_, ?_, r92⟩
    · rw [r4, updT_n (by omega), f3.row (by decide)]; exact v1
    · rw [r4, updT_n (by omega), f3.row (by decide)]; exact v2
    · rw [r4, updT_n (by omega), f3.row (by decide)]; exact v3
theorem m_runL (hG : GA s) (hq : 0 ≤ q ∧ q < 96) (hb : -1 ≤ b ∧ b ≤ 100) (hw1 : -1 ≤ hw ∧ hw ≤ 4) (hB : 0 ≤ b → b < s 249 → 0 ≤ hw → actOk s hw (s (250 + 2 * b + 1))) : ∀ (d : Nat) (j n : Int) (J : JS) (h : AH), MJ h s J → JI s n J → 0 ≤ n → n + d ≤ 100 → 0 ≤ j → j + d = s 249 →
    (∀ h', RJ h h' → MJ h' s (rnM s q b hw d j J).2 → post h' (iI (rnM s q b hw d j J).1)) → wl_X12_run_27 post (d + 1) h 92 (iI q) (iI b) (iI hw) (iI j) := by
  have bd := hG.bd
  intro d
  induction d with
  | zero =>
    intro j n J h R hJ n0 nd j0 jd k
    obtain ⟨M, e94, -⟩ := id R
    show wb_X12_run_27 (wl_X12_run_27 post 0) h 92 (iI q) (iI b) (iI hw) (iI j) post
    unfold wb_X12_run_27
    simp (disch := omega) only [MSh.o0 M, MSh.p1 M, MSh.o1 M, MSh.l1 M, MSh.p6 M, MSh.o2 M, MSh.l2 M, MSh.p7 M, MSh.o3 M, MSh.l3 M, MSh.p8 M, MSh.o4 M, MSh.l4 M, MSh.p9 M, MSh.o5 M, MSh.l5 M, MSh.p10 M, MSh.o6 M, MSh.l6 M, MSh.p24 M, MSh.o7 M, MSh.l7 M, MSh.p25 M, MSh.o8 M, MSh.l8 M, MSh.p26 M, MSh.o9 M, MSh.l9 M, MSh.p32 M, MSh.o10 M, MSh.l10 M, MSh.p33 M, MSh.o11 M, MSh.l11 M, MSh.p35 M, MSh.o12 M, MSh.l12 M, MSh.p36 M, MSh.o13 M, MSh.l13 M, MSh.p37 M, MSh.o14 M, MSh.l14 M, MSh.p38 M, MSh.o15 M, MSh.l15 M, MSh.p39 M, MSh.o16 M, MSh.l16 M, MSh.p42 M, MSh.o17 M, MSh.l17 M, MSh.p43 M, MSh.o18 M, MSh.l18 M, MSh.p44 M, MSh.o19 M, MSh.l19 M, MSh.p45 M, MSh.o20 M, MSh.l20 M, MSh.p46 M, MSh.o21 M, MSh.l21 M, MSh.p47 M, MSh.o22 M, MSh.l22 M, MSh.p50 M, MSh.o23 M, MSh.l23 M, MSh.p51 M, MSh.o24 M, MSh.l24 M, MSh.p52 M, MSh.o25 M, MSh.l25 M, e94, -Int.reduceToNat, -Int32.reduceToNatClampNeg, il0, il1, il2, il3, il4, il5, il6, il7, il8, il9, il10, il11, il12, il13, il14, il15, il16, il17, il18, il19, il20, il21, il22, il23, il24, il25, il26, il27, il28, il29, il30, il31, il32, il35, il36, il38, il40, il42, il43, il44, il45, il46, il47, il48, il49, il50, il51, il52, il57, il59, il60, il63, il64, il75, il80, il95, il96, il97, il98, il99, il100, il120, il122, il123, il127, il128, il135, il167, il175, il225, il249, il250, il255, il256, il360, il370, il384, il600, il700, il740, il900, il940, il1024, il1600, il4800, il64000, il125000, il262143, il1000000000, iI_toInt, iI_add, iI_sub, iI_mul, iI_neg, iI_lt, iI_le, iI_eq, iI_n, iI_in, iI_div, iI_mod, iI_shm, iI_and1, iI_and7, iI_and63, iI_shr3, iI_shr6, rd_I, ob, Option.some.injEq, exists_eq_left', exists_eq_left, true_and, and_true, fqI, fqJ, eq_self, true_or, or_true, bP_0, bP_0i, npP, bP_1i, bP_b, not_true_eq_false, not_false_eq_true, false_implies, true_implies, implies_true, Classical.not_not, and_self, cP, cP', ite_n, ite_T, ite_F, ite_t, ite_f]
    exact k h (RJ.refl h) R
  | succ d ih =>
    intro j n J h R hJ n0 nd j0 jd k
    obtain ⟨M, e94, -⟩ := id R
    show wb_X12_run_27 (wl_X12_run_27 post (d + 1)) h 92 (iI q) (iI b) (iI hw) (iI j) post
    rw [rnM] at k
    unfold wb_X12_run_27 wb_X12_run_53
    have sbj := hG.sb (250 + 2 * j) (by omega) (by omega)
    simp (disch := omega) only [MSh.o0 M, MSh.p1 M, MSh.o1 M, MSh.l1 M, MSh.p6 M, MSh.o2 M, MSh.l2 M, MSh.p7 M, MSh.o3 M, MSh.l3 M, MSh.p8 M, MSh.o4 M, MSh.l4 M, MSh.p9 M, MSh.o5 M, MSh.l5 M, MSh.p10 M, MSh.o6 M, MSh.l6 M, MSh.p24 M, MSh.o7 M, MSh.l7 M, MSh.p25 M, MSh.o8 M, MSh.l8 M, MSh.p26 M, MSh.o9 M, MSh.l9 M, MSh.p32 M, MSh.o10 M, MSh.l10 M, MSh.p33 M, MSh.o11 M, MSh.l11 M, MSh.p35 M, MSh.o12 M, MSh.l12 M, MSh.p36 M, MSh.o13 M, MSh.l13 M, MSh.p37 M, MSh.o14 M, MSh.l14 M, MSh.p38 M, MSh.o15 M, MSh.l15 M, MSh.p39 M, MSh.o16 M, MSh.l16 M, MSh.p42 M, MSh.o17 M, MSh.l17 M, MSh.p43 M, MSh.o18 M, MSh.l18 M, MSh.p44 M, MSh.o19 M, MSh.l19 M, MSh.p45 M, MSh.o20 M, MSh.l20 M, MSh.p46 M, MSh.o21 M, MSh.l21 M, MSh.p47 M, MSh.o22 M, MSh.l22 M, MSh.p50 M, MSh.o23 M, MSh.l23 M, MSh.p51 M, MSh.o24 M, MSh.l24 M, MSh.p52 M, MSh.o25 M, MSh.l25 M, e94, -Int.reduceToNat, -Int32.reduceToNatClampNeg, il0, il1, il2, il3, il4, il5, il6, il7, il8, il9, il10, il11, il12, il13, il14, il15, il16, il17, il18, il19, il20, il21, il22, il23, il24, il25, il26, il27, il28, il29, il30, il31, il32, il35, il36, il38, il40, il42, il43, il44, il45, il46, il47, il48, il49, il50, il51, il52, il57, il59, il60, il63, il64, il75, il80, il95, il96, il97, il98, il99, il100, il120, il122, il123, il127, il128, il135, il167, il175, il225, il249, il250, il255, il256, il360, il370, il384, il600, il700, il740, il900, il940, il1024, il1600, il4800, il64000, il125000, il262143, il1000000000, iI_toInt, iI_add, iI_sub, iI_mul, iI_neg, iI_lt, iI_le, iI_eq, iI_n, iI_in, iI_div, iI_mod, iI_shm, iI_and1, iI_and7, iI_and63, iI_shr3, iI_shr6, rd_I, ob, Option.some.injEq, exists_eq_left', exists_eq_left, true_and, and_true, fqI, fqJ, eq_self, true_or, or_true, bP_0, bP_0i, npP, bP_1i, bP_b, not_true_eq_false, not_false_eq_true, false_implies, true_implies, implies_true, Classical.not_not, and_self, cP, cP', ite_n, ite_f]
    by_cases cb : j = b
    · by_cases cw : 0 ≤ hw
      case neg =>
        rw [ite_t cb, ite_f cw]
        rw [ite_t ⟨cb, by omega⟩] at k
        unfold wb_X12_run_160
        intro iv ev
        rw [ev, il1, iI_add]
        exact ih (j + 1) n J h R hJ n0 (by omega) (by omega) (by omega) k
      rw [ite_t cb, ite_t cw, ite_t cb]
      rw [ite_f (fun p => by omega), if_pos cb] at k
      refine m_act1 R hG hJ (by omega) hq j0 (by omega) (by rw [cb]; exact hB (by omega) (by omega) cw) (fun h1 c f1 R1 => ?_) (fun h1 c f1 R1 => ?_)
      · rw [ite_t c] at k
        exact ih (j + 1) (n + 1) _ h1 R1 (stJ_I hG (by rw [cb]; exact hB (by omega) (by omega) cw) hJ n0 c) (by omega) (by omega) (by omega) (by omega) fun h2 f2 R2 => k h2 (f1.trans f2) R2
      · rw [ite_f c] at k
        exact k h1 f1 R1
    · rw [ite_f cb, ite_f cb]
      rw [ite_f (fun p => cb p.1), if_neg cb] at k
      have A := hG.act j0 (show j < s 249 by omega)
      refine m_act1 R hG hJ (by omega) hq j0 (by omega) A (fun h1 c f1 R1 => ?_) (fun h1 c f1 R1 => ?_)
      · rw [ite_t c] at k
        exact ih (j + 1) (n + 1) _ h1 R1 (stJ_I hG A hJ n0 c) (by omega) (by omega) (by omega) (by omega) fun h2 f2 R2 => k h2 (f1.trans f2) R2
      · rw [ite_f c] at k
        exact k h1 f1 R1
/-- the model's run as a whole -/
def RJb (h h' : AH) : Prop := Fr [92, 99, 100] [] [] h h' ∧ MF [28, 29, 30, 31] h h'
theorem m_run (M : MSh h) (Z : Z24 h) (hG : GA (rd h 94)) (hq : 0 ≤ q ∧ q < 96) (hb : -1 ≤ b ∧ b ≤ 100) (hw1 : -1 ≤ hw ∧ hw ≤ 4) (hB : 0 ≤ b → b < rd h 94 249 → 0 ≤ hw → actOk (rd h 94) hw (rd h 94 (250 + 2 * b + 1)))
    (k : ∀ h', RJb h h' → MJ h' (rd h 94) (rnM (rd h 94) q b hw (rd h 94 249).toNat 0 (J0 (rd h 94))).2 → post h' (iI (rnM (rd h 94) q b hw (rd h 94 249).toNat 0 (J0 (rd h 94))).1)) : wp_X12_run h 92 (iI q) (iI b) (iI hw) post := by
  have bd := hG.bd
  unfold wp_X12_run
  refine ⟨M.o0, m_asIt M Z fun ha fa e99 e100 => ?_⟩
  have Ma := M.fr fa
  refine ⟨Ma.o0, fun hb' eb => ?_⟩
  obtain ⟨fb, rb⟩ := wI (i := 28) (v := 0) (by omega) (by omega) (by omega) eb
  have Mb := Ma.fr fb
  refine ⟨Mb.o0, fun hc ec => ?_⟩
  obtain ⟨fc, rc⟩ := wI (i := 29) (v := 0) (by omega) (by omega) (by omega) ec
  have Mc := Mb.fr fc
  refine ⟨Mc.o0, fun hd ed => ?_⟩
  obtain ⟨fd, rd'⟩ := wI (i := 30) (v := -1) (by omega) (by omega) (by omega) ed
  have Md := Mc.fr fd
  refine ⟨Md.o0, fun he ee => ?_⟩
  obtain ⟨fe, re⟩ := wI (i := 31) (v := 0) (by omega) (by omega) (by omega) ee
  have Me := Md.fr fe
  have F : Fr [92] [] [] ha he := fb.trans (fc.trans (fd.trans fe))
  have R : MJ he (rd h 94) (J0 (rd h 94)) := by
    refine ⟨Me, by rw [F.row (by decide), fa.row (by decide)], by rw [F.row (by decide), e99]; rfl, by rw [F.row (by decide), e100], ?_, ?_, ?_, ?_⟩
    · rw [re, updT_n (by omega), rd', updT_n (by omega), rc, updT_n (by omega), rb, updT_s]; rfl
    · rw [re, updT_n (by omega), rd', updT_n (by omega), rc, updT_s]; rfl
    · rw [re, updT_n (by omega), rd', updT_s]; rfl
    · rw [re, updT_s]; rfl
  have m0 : MF [28, 29, 30, 31] h he := fun j hj => by
    rw [re, updT_n (fun e => hj (by rw [e]; decide)), rd', updT_n (fun e => hj (by rw [e]; decide)), rc, updT_n (fun e => hj (by rw [e]; decide)), rb, updT_n (fun e => hj (by rw [e]; decide)), fa.row (by decide)]
  refine ⟨(rd h 94 249).toNat + 1, m_runL hG hq hb hw1 hB (rd h 94 249).toNat 0 0 (J0 (rd h 94)) he R (J0_I hG) (by omega) (by omega) (by omega) (by omega) fun h' q' R' => ?_⟩
  exact k h' ⟨(fa.mono (by simp) (by simp) (by simp)).trans ((F.mono (by simp) (by simp) (by simp)).trans (q'.1.mono (by simp) (by simp) (by simp))), m0.trans q'.2⟩ R'
theorem rnM_off : ∀ (d : Nat) (j : Int) (J : JS), (b < j ∨ j + d ≤ b) → rnM s q b hw d j J = runF s q d j J := by
  intro d
  induction d with
  | zero => intro j J _; rfl
  | succ d ih =>
    intro j J hb
    rw [rnM, runF, ite_f (fun p => by omega), if_neg (by omega), ih (j + 1) _ (by omega)]
/-- the run up to an ACT, then without it or with another in its place -/
theorem rnM_at : ∀ (m : Nat) (d : Nat) (j : Int) (J : JS), 0 ≤ j → j + m = b → m < d → rnM s q b hw d j J = iteP ((runF s q m j J).1 = -1) (iteP (hw < 0) (runF s q (d - m - 1) (b + 1) (runF s q m j J).2) (iteP (stW s q (runF s q m j J).2 hw (s (250 + 2 * b + 1)) = 0) (runF s q (d - m - 1) (b + 1) (stJ s q (runF s q m j J).2 hw (s (250 + 2 * b + 1)))) (b, stJ s q (runF s q m j J).2 hw (s (250 + 2 * b + 1))))) (runF s q m j J) := by
  intro m
  induction m with
  | zero =>
    intro d j J j0 hj hd
    have e : j = b := by omega
    subst e
    obtain ⟨d', rfl⟩ : ∃ d', d = d' + 1 := ⟨d - 1, by omega⟩
    rw [show d' + 1 - 0 - 1 = d' by omega]
    show rnM s q j hw (d' + 1) j J = iteP ((-1 : Int) = -1) _ _
    rw [ite_t rfl, rnM, if_pos rfl]
    by_cases c : hw < 0
    · rw [ite_t ⟨rfl, c⟩, ite_t c, rnM_off d' (j + 1) J (by omega)]
      rfl
    · rw [ite_f (fun p => c p.2), ite_f c, rnM_off d' (j + 1) _ (by omega)]
      rfl
  | succ m ih =>
    intro d j J j0 hj hd
    obtain ⟨d', rfl⟩ : ∃ d', d = d' + 1 := ⟨d - 1, by omega⟩
    rw [rnM, ite_f (fun p => by omega), if_neg (by omega), runF]
    by_cases c : stW s q J (s (250 + 2 * j)) (s (250 + 2 * j + 1)) = 0
    · rw [ite_t c, ite_t c, ih d' (j + 1) _ (by omega) (by omega) (by omega), show d' + 1 - (m + 1) - 1 = d' - m - 1 by omega]
    · rw [ite_f c, ite_f c]
      rw [ite_f (by show ¬ j = -1; omega)]
end MRUN
