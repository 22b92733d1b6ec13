/-! the class's next TOKEN -/
def TBl (h : AH) (tx tb : Nat) : Prop := aP h tx 0 = some tb ∧ ob h tb 13 ∧ aL h tb = 18 ∧ ∀ i, 0 ≤ i → i < 18 → rd h tb i = w5 (kwL.getD i.toNat [])
section ADW
variable {h h1 h2 h' h0 : AH} {tx ci tb : Nat} {postV : AH → Prop} {post : AH → Int32 → Prop} {a b c d r x y n m p f fa q e k i : Int} {T : Int → Int} {l : List Int}
theorem kwL_ltr {i : Int} (h0 : 0 ≤ i) (h1 : i < 18) : Ltr (kwL.getD i.toNat []) ∧ (kwL.getD i.toNat []).length ≤ 6 := by
  have H : ∀ j : Nat, j < 18 → (∀ c, c ∈ kwL.getD j [] → 97 ≤ c ∧ c ≤ 122) ∧ (kwL.getD j []).length ≤ 6 := by decide
  exact H i.toNat (by omega)
theorem c_wordOf (O : ob h tx ci) (B : TBl h tx tb) (hl : Ltr l) (h6 : l.length ≤ 6) (k : post h (iI (kwI l))) : wp_X7_wordOf ci h tx (iI (w5 l)) post := by
  obtain ⟨b1, b2, b3, b4⟩ := B
  have w1 := w5_bd l hl
  have w2 := p32_6 h6
  unfold wp_X7_wordOf
  rw [show (0 : Int32) = iI 0 from rfl]
  refine (lp_fst (W := fun n i => wl_X7_wordOf_2 ci post n h tx (iI (w5 l)) (iI i)) (P := fun i => kwL.getD i.toNat [] = l) (lo := 0) (hi := 18) (E := fun v => post h (iI v)) (by omega) (fun _ => id) (fun n i i0 i1 => ?_) (fun n => ?_)).mpr k
  · show wb_X7_wordOf_2 ci (wl_X7_wordOf_2 ci post n) h tx (iI (w5 l)) (iI i) post ↔ _
    have w3 := kwL_ltr i0 i1
    have w4 := w5_bd _ w3.1
    have w5' := p32_6 w3.2
    have e : (w5 (kwL.getD i.toNat []) = w5 l) ↔ kwL.getD i.toNat [] = l := ⟨w5_inj _ _ w3.1 hl, fun q => by rw [q]⟩
    unfold wb_X7_wordOf_2
    simp (disch := omega) only [O, b1, b2, b3, b4 i i0 i1, -Int.reduceToNat, -Int32.reduceToNatClampNeg, il0, il1, il2, il3, il4, il5, il6, il7, il8, il9, il10, il11, il12, il13, il14, il15, il16, il17, il18, il19, il20, il21, il22, il23, il24, il25, il26, il27, il28, il29, il30, il31, il32, il35, il36, il38, il40, il42, il43, il44, il45, il46, il47, il48, il49, il50, il51, il52, il57, il59, il60, il63, il64, il75, il80, il95, il96, il97, il98, il99, il100, il120, il122, il123, il127, il128, il135, il167, il175, il225, il249, il250, il255, il256, il360, il370, il384, il600, il700, il740, il900, il940, il1024, il1600, il4800, il64000, il125000, il262143, il1000000000, iI_toInt, iI_add, iI_sub, iI_mul, iI_neg, iI_lt, iI_le, iI_eq, iI_n, iI_in, iI_div, iI_mod, iI_shm, iI_and1, iI_and7, iI_and63, iI_shr3, iI_shr6, rd_I, ob, Option.some.injEq, exists_eq_left', exists_eq_left, true_and, and_true, fqI, fqJ, eq_self, true_or, or_true, bP_0, bP_0i, npP, bP_1i, bP_b, not_true_eq_false, not_false_eq_true, false_implies, true_implies, implies_true, Classical.not_not, and_self, cP, cP', ite_n, ite_f, e]
  · show wb_X7_wordOf_2 ci (wl_X7_wordOf_2 ci post n) h tx (iI (w5 l)) (iI 18) post ↔ _
    unfold wb_X7_wordOf_2
    simp (disch := omega) only [-Int.reduceToNat, -Int32.reduceToNatClampNeg, il0, il1, il2, il3, il4, il5, il6, il7, il8, il9, il10, il11, il12, il13, il14, il15, il16, il17, il18, il19, il20, il21, il22, il23, il24, il25, il26, il27, il28, il29, il30, il31, il32, il35, il36, il38, il40, il42, il43, il44, il45, il46, il47, il48, il49, il50, il51, il52, il57, il59, il60, il63, il64, il75, il80, il95, il96, il97, il98, il99, il100, il120, il122, il123, il127, il128, il135, il167, il175, il225, il249, il250, il255, il256, il360, il370, il384, il600, il700, il740, il900, il940, il1024, il1600, il4800, il64000, il125000, il262143, il1000000000, iI_toInt, iI_add, iI_sub, iI_mul, iI_neg, iI_lt, iI_le, iI_eq, iI_n, iI_in, iI_div, iI_mod, iI_shm, iI_and1, iI_and7, iI_and63, iI_shr3, iI_shr6, rd_I, ob, Option.some.injEq, exists_eq_left', exists_eq_left, true_and, and_true, fqI, fqJ, eq_self, true_or, or_true, bP_0, bP_0i, npP, bP_1i, bP_b, not_true_eq_false, not_false_eq_true, false_implies, true_implies, implies_true, Classical.not_not, and_self, cP, cP', ite_n, ite_t]
def SkS (T : Int → Int) (h0 h : AH) (tx ci : Nat) (n i : Int) : Prop := (ob h tx ci) ∧ (aP h tx 1 = some 1) ∧ (TXs h T) ∧ (tkF h0 h tx) ∧ (rd h tx 2 = n) ∧ (rd h tx 4 = i) ∧ (rd h tx 8 = 0) ∧ (rd h tx 9 = -1)
theorem SkS.o {T : Int → Int} {h0 h : AH} {tx ci : Nat} {n i : Int} (R : SkS T h0 h tx ci n i) : ob h tx ci := R.1
theorem SkS.pp {T : Int → Int} {h0 h : AH} {tx ci : Nat} {n i : Int} (R : SkS T h0 h tx ci n i) : aP h tx 1 = some 1 := R.2.1
theorem SkS.X {T : Int → Int} {h0 h : AH} {tx ci : Nat} {n i : Int} (R : SkS T h0 h tx ci n i) : TXs h T := R.2.2.1
theorem SkS.t {T : Int → Int} {h0 h : AH} {tx ci : Nat} {n i : Int} (R : SkS T h0 h tx ci n i) : tkF h0 h tx := R.2.2.2.1
theorem SkS.s2 {T : Int → Int} {h0 h : AH} {tx ci : Nat} {n i : Int} (R : SkS T h0 h tx ci n i) : rd h tx 2 = n := R.2.2.2.2.1
theorem SkS.s4 {T : Int → Int} {h0 h : AH} {tx ci : Nat} {n i : Int} (R : SkS T h0 h tx ci n i) : rd h tx 4 = i := R.2.2.2.2.2.1
theorem SkS.s8 {T : Int → Int} {h0 h : AH} {tx ci : Nat} {n i : Int} (R : SkS T h0 h tx ci n i) : rd h tx 8 = 0 := R.2.2.2.2.2.2.1
theorem SkS.s9 {T : Int → Int} {h0 h : AH} {tx ci : Nat} {n i : Int} (R : SkS T h0 h tx ci n i) : rd h tx 9 = -1 := R.2.2.2.2.2.2.2
/-- what a next TOKEN has filled -/
def AdO (T : Int → Int) (n m p : Int) (h h' : AH) (tx : Nat) : Prop := tkF h h' tx ∧ rd h' tx 4 = tkE T n m p ∧ rd h' tx 5 = tkA T n m p ∧ rd h' tx 6 = tkK T n m p ∧ (tkK T n m p = 1 → rd h' tx 7 = w5 (tkW T n m p) ∧ rd h' tx 9 = kwI (tkW T n m p)) ∧ (tkK T n m p = 2 → rd h' tx 7 = tkV T n m p ∧ rd h' tx 8 = tkS T n m p) ∧ (tkK T n m p ≠ 1 → rd h' tx 9 = -1)
theorem c_advA (S : SkS T h0 h tx ci n q) (ht : tx ≠ 1) (hb : tb ≠ tx) (B : TBl h tx tb) (hq : skT T n m p = q) (h1 : 0 ≤ q ∧ q ≤ n) (hn : n ≤ 940) (hm : 0 ≤ m ∧ m ≤ 1000) (k : ∀ h', AdO T n m p h0 h' tx → postV h') : wb_X7_advance_79 ci h tx (iI (mnZ n m)) postV := by
  obtain ⟨x1, x2, x3, x4⟩ := S.X
  have O := S.o
  have pg := S.pp
  have g4 := S.s4
  have hmn : 0 ≤ mnZ n m ∧ mnZ n m ≤ n := by unfold mnZ; split <;> omega
  unfold wb_X7_advance_79
  simp (disch := omega) only [O, fd0, fd1, fd2, fd3, fd4, fd5, fd6, fd7, fd8, fd9, fd10, fd11, fd12, fd13, fd14, fd15, fd16, fd17, fd18, fd19, fd20, fd21, fd22, fd23, fd24, fd25, fd26, fd27, fd28, fd29, fd30, fd31, fd32, fd33, fd34, fd35, fd36, fd37, fd38, fd39, fd40, fd41, fd42, fd43, fd44, fd45, fd46, fd47, fd48, fd49, fd50, fd51, fd52, g4, -Int.reduceToNat, -Int32.reduceToNatClampNeg, il0, il1, il2, il3, il4, il5, il6, il7, il8, il9, il10, il11, il12, il13, il14, il15, il16, il17, il18, il19, il20, il21, il22, il23, il24, il25, il26, il27, il28, il29, il30, il31, il32, il35, il36, il38, il40, il42, il43, il44, il45, il46, il47, il48, il49, il50, il51, il52, il57, il59, il60, il63, il64, il75, il80, il95, il96, il97, il98, il99, il100, il120, il122, il123, il127, il128, il135, il167, il175, il225, il249, il250, il255, il256, il360, il370, il384, il600, il700, il740, il900, il940, il1024, il1600, il4800, il64000, il125000, il262143, il1000000000, iI_toInt, iI_add, iI_sub, iI_mul, iI_neg, iI_lt, iI_le, iI_eq, iI_n, iI_in, iI_div, iI_mod, iI_shm, iI_and1, iI_and7, iI_and63, iI_shr3, iI_shr6, rd_I, ob, Option.some.injEq, exists_eq_left', exists_eq_left, true_and, and_true, fqI, fqJ, eq_self, true_or, or_true, bP_0, bP_0i, npP, bP_1i, bP_b, not_true_eq_false, not_false_eq_true, false_implies, true_implies, implies_true, Classical.not_not, and_self, cP, cP', ite_n]
  by_cases c : q < mnZ n m
  · rw [ite_t c]
    have bt := x4 q
    simp (disch := omega) only [O, pg, x1, x2, x3, fd0, fd1, fd2, fd3, fd4, fd5, fd6, fd7, fd8, fd9, fd10, fd11, fd12, fd13, fd14, fd15, fd16, fd17, fd18, fd19, fd20, fd21, fd22, fd23, fd24, fd25, fd26, fd27, fd28, fd29, fd30, fd31, fd32, fd33, fd34, fd35, fd36, fd37, fd38, fd39, fd40, fd41, fd42, fd43, fd44, fd45, fd46, fd47, fd48, fd49, fd50, fd51, fd52, g4, -Int.reduceToNat, -Int32.reduceToNatClampNeg, il0, il1, il2, il3, il4, il5, il6, il7, il8, il9, il10, il11, il12, il13, il14, il15, il16, il17, il18, il19, il20, il21, il22, il23, il24, il25, il26, il27, il28, il29, il30, il31, il32, il35, il36, il38, il40, il42, il43, il44, il45, il46, il47, il48, il49, il50, il51, il52, il57, il59, il60, il63, il64, il75, il80, il95, il96, il97, il98, il99, il100, il120, il122, il123, il127, il128, il135, il167, il175, il225, il249, il250, il255, il256, il360, il370, il384, il600, il700, il740, il900, il940, il1024, il1600, il4800, il64000, il125000, il262143, il1000000000, iI_toInt, iI_add, iI_sub, iI_mul, iI_neg, iI_lt, iI_le, iI_eq, iI_n, iI_in, iI_div, iI_mod, iI_shm, iI_and1, iI_and7, iI_and63, iI_shr3, iI_shr6, rd_I, ob, Option.some.injEq, exists_eq_left', exists_eq_left, true_and, and_true, fqI, fqJ, eq_self, true_or, or_true, bP_0, bP_0i, npP, bP_1i, bP_b, not_true_eq_false, not_false_eq_true, false_implies, true_implies, implies_true, Classical.not_not, and_self, cP, cP', ite_n]
    by_cases c1 : T q = 59
    · have eK : tkK T n m p = 3 := by unfold tkK; rw [hq, ite_f (by omega), ite_t c1]
      have eE : tkE T n m p = q + 1 := by unfold tkE; rw [hq, ite_f (by omega), ite_t c1]
      have eA : tkA T n m p = q := by unfold tkA; rw [hq, ite_f (by omega)]
      rw [ite_t c1]
      intro g1 e1
      obtain ⟨f1, r1⟩ := wI (i := 5) (by omega) (by omega) (by omega) e1
      have O1 : ob g1 tx ci := f1.gr.ob O
      simp (disch := omega) only [O1, -Int.reduceToNat, -Int32.reduceToNatClampNeg, il0, il1, il2, il3, il4, il5, il6, il7, il8, il9, il10, il11, il12, il13, il14, il15, il16, il17, il18, il19, il20, il21, il22, il23, il24, il25, il26, il27, il28, il29, il30, il31, il32, il35, il36, il38, il40, il42, il43, il44, il45, il46, il47, il48, il49, il50, il51, il52, il57, il59, il60, il63, il64, il75, il80, il95, il96, il97, il98, il99, il100, il120, il122, il123, il127, il128, il135, il167, il175, il225, il249, il250, il255, il256, il360, il370, il384, il600, il700, il740, il900, il940, il1024, il1600, il4800, il64000, il125000, il262143, il1000000000, iI_toInt, iI_add, iI_sub, iI_mul, iI_neg, iI_lt, iI_le, iI_eq, iI_n, iI_in, iI_div, iI_mod, iI_shm, iI_and1, iI_and7, iI_and63, iI_shr3, iI_shr6, rd_I, ob, Option.some.injEq, exists_eq_left', exists_eq_left, true_and, and_true, fqI, fqJ, eq_self, true_or, or_true, bP_0, bP_0i, npP, bP_1i, bP_b, not_true_eq_false, not_false_eq_true, false_implies, true_implies, implies_true, Classical.not_not, and_self]
      intro g2 e2
      obtain ⟨f2, r2⟩ := wI (i := 6) (by omega) (by omega) (by omega) e2
      have O2 : ob g2 tx ci := f2.gr.ob O1
      have q4 : rd g2 tx 4 = q := by rw [r2, updT_n (by omega), r1, updT_n (by omega), g4]
      simp (disch := omega) only [O2, fd0, fd1, fd2, fd3, fd4, fd5, fd6, fd7, fd8, fd9, fd10, fd11, fd12, fd13, fd14, fd15, fd16, fd17, fd18, fd19, fd20, fd21, fd22, fd23, fd24, fd25, fd26, fd27, fd28, fd29, fd30, fd31, fd32, fd33, fd34, fd35, fd36, fd37, fd38, fd39, fd40, fd41, fd42, fd43, fd44, fd45, fd46, fd47, fd48, fd49, fd50, fd51, fd52, q4, -Int.reduceToNat, -Int32.reduceToNatClampNeg, il0, il1, il2, il3, il4, il5, il6, il7, il8, il9, il10, il11, il12, il13, il14, il15, il16, il17, il18, il19, il20, il21, il22, il23, il24, il25, il26, il27, il28, il29, il30, il31, il32, il35, il36, il38, il40, il42, il43, il44, il45, il46, il47, il48, il49, il50, il51, il52, il57, il59, il60, il63, il64, il75, il80, il95, il96, il97, il98, il99, il100, il120, il122, il123, il127, il128, il135, il167, il175, il225, il249, il250, il255, il256, il360, il370, il384, il600, il700, il740, il900, il940, il1024, il1600, il4800, il64000, il125000, il262143, il1000000000, iI_toInt, iI_add, iI_sub, iI_mul, iI_neg, iI_lt, iI_le, iI_eq, iI_n, iI_in, iI_div, iI_mod, iI_shm, iI_and1, iI_and7, iI_and63, iI_shr3, iI_shr6, rd_I, ob, Option.some.injEq, exists_eq_left', exists_eq_left, true_and, and_true, fqI, fqJ, eq_self, true_or, or_true, bP_0, bP_0i, npP, bP_1i, bP_b, not_true_eq_false, not_false_eq_true, false_implies, true_implies, implies_true, Classical.not_not, and_self]
      intro g3 e3
      obtain ⟨f3, r3⟩ := wI (i := 4) (by omega) (by omega) (by omega) e3
      refine k g3 ⟨S.t.trans ((tkF.one (by omega) f1 r1).trans ((tkF.one (by omega) f2 r2).trans (tkF.one (by omega) f3 r3))), ?_, ?_, ?_, fun u => by omega, fun u => by omega, fun _ => ?_⟩
      · rw [r3, updT_s, eE]
      · rw [r3, updT_n (by omega), r2, updT_n (by omega), r1, updT_s, eA]
      · rw [r3, updT_n (by omega), r2, updT_s, eK]
      · rw [r3, updT_n (by omega), r2, updT_n (by omega), r1, updT_n (by omega), S.s9]
    · have eK : tkK T n m p = rnK T q (rnE T n q) := by unfold tkK; rw [hq, ite_f (by omega), ite_f c1]
      have eE : tkE T n m p = rnE T n q := by unfold tkE; rw [hq, ite_f (by omega), ite_f c1]
      have eA : tkA T n m p = q := by unfold tkA; rw [hq, ite_f (by omega)]
      have eW : tkW T n m p = rnW T q (rnE T n q) := by unfold tkW; rw [hq]
      have eV : tkV T n m p = rnV T q (rnE T n q) := by unfold tkV; rw [hq]
      have eS : tkS T n m p = rnE T n q - q := by unfold tkS; rw [hq]
      rw [ite_f c1]
      intro g1 e1
      obtain ⟨f1, r1⟩ := wI (i := 5) (by omega) (by omega) (by omega) e1
      have O1 : ob g1 tx ci := f1.gr.ob O
      refine ⟨O1, c_readRun O1 (by rw [f1.aPe]; exact pg) (S.X.fr f1 (by simpa using ht.symm)) ht (n := n) (q := q) (by rw [r1, updT_n (by omega), S.s2]) (by rw [r1, updT_n (by omega), g4]) h1 hn fun g2 t2 v4 v5 v9 v6 v8 v71 v72 => ?_⟩
      have O2 : ob g2 tx ci := t2.1.gr.ob O1
      have b6 := rd_bd g2 tx 6
      have T02 : tkF h0 g2 tx := S.t.trans ((tkF.one (by omega) f1 r1).trans t2)
      have w5e : rd g2 tx 5 = q := by rw [v5, r1, updT_s]
      have w9e : rd g2 tx 9 = -1 := by rw [v9, r1, updT_n (by omega), S.s9]
      simp (disch := omega) only [O2, fd0, fd1, fd2, fd3, fd4, fd5, fd6, fd7, fd8, fd9, fd10, fd11, fd12, fd13, fd14, fd15, fd16, fd17, fd18, fd19, fd20, fd21, fd22, fd23, fd24, fd25, fd26, fd27, fd28, fd29, fd30, fd31, fd32, fd33, fd34, fd35, fd36, fd37, fd38, fd39, fd40, fd41, fd42, fd43, fd44, fd45, fd46, fd47, fd48, fd49, fd50, fd51, fd52, -Int.reduceToNat, -Int32.reduceToNatClampNeg, il0, il1, il2, il3, il4, il5, il6, il7, il8, il9, il10, il11, il12, il13, il14, il15, il16, il17, il18, il19, il20, il21, il22, il23, il24, il25, il26, il27, il28, il29, il30, il31, il32, il35, il36, il38, il40, il42, il43, il44, il45, il46, il47, il48, il49, il50, il51, il52, il57, il59, il60, il63, il64, il75, il80, il95, il96, il97, il98, il99, il100, il120, il122, il123, il127, il128, il135, il167, il175, il225, il249, il250, il255, il256, il360, il370, il384, il600, il700, il740, il900, il940, il1024, il1600, il4800, il64000, il125000, il262143, il1000000000, iI_toInt, iI_add, iI_sub, iI_mul, iI_neg, iI_lt, iI_le, iI_eq, iI_n, iI_in, iI_div, iI_mod, iI_shm, iI_and1, iI_and7, iI_and63, iI_shr3, iI_shr6, rd_I, ob, Option.some.injEq, exists_eq_left', exists_eq_left, true_and, and_true, fqI, fqJ, eq_self, true_or, or_true, bP_0, bP_0i, npP, bP_1i, bP_b, not_true_eq_false, not_false_eq_true, false_implies, true_implies, implies_true, Classical.not_not, and_self, cP, cP', ite_n]
      rw [v6]
      by_cases ck : rnK T q (rnE T n q) = 1
      · rw [ite_t ck]
        have v7 := v71 ck
        obtain ⟨⟨s1, s2⟩, s3, s4⟩ := fz_spec (P := fun i => ¬ alC (T i)) (n - q).toNat q
        have hE : fz (fun i => ¬ alC (T i)) (n - q).toNat q = rnE T n q := rfl
        rw [hE] at s1 s2 s3 s4
        have ck' := ck
        unfold rnK at ck'
        by_cases c0 : rnE T n q = q
        · rw [ite_t c0] at ck'; omega
        rw [ite_f c0] at ck'
        by_cases c2 : allI ltC T q (rnE T n q) ∧ rnE T n q - q ≤ 6
        · have lt := rnW_lt (T := T) (q := q) (rnE T n q - q).toNat
          rw [show q + ((rnE T n q - q).toNat : Int) = rnE T n q by omega] at lt
          have lt := lt c2.1
          have len := rnW_l (T := T) s1
          have B2 : TBl g2 tx tb := by
            obtain ⟨b1, b2, b3, b4⟩ := B
            exact ⟨by rw [t2.1.aPe, f1.aPe]; exact b1, t2.1.gr.ob (f1.gr.ob b2), by rw [t2.1.2.2.2.1, f1.2.2.2.1]; exact b3, fun i i0 i1 => by rw [t2.1.row (by simpa using hb), f1.row (by simpa using hb)]; exact b4 i i0 i1⟩
          rw [v7]
          refine c_wordOf O2 B2 lt (by omega) ?_
          have kb : -1 ≤ kwI (rnW T q (rnE T n q)) ∧ kwI (rnW T q (rnE T n q)) < 18 := by
            unfold kwI
            rcases fstI_spec (P := fun i => kwL.getD i.toNat [] = rnW T q (rnE T n q)) 18 0 (by omega) with u | u <;> omega
          simp (disch := omega) only [O2, -Int.reduceToNat, -Int32.reduceToNatClampNeg, il0, il1, il2, il3, il4, il5, il6, il7, il8, il9, il10, il11, il12, il13, il14, il15, il16, il17, il18, il19, il20, il21, il22, il23, il24, il25, il26, il27, il28, il29, il30, il31, il32, il35, il36, il38, il40, il42, il43, il44, il45, il46, il47, il48, il49, il50, il51, il52, il57, il59, il60, il63, il64, il75, il80, il95, il96, il97, il98, il99, il100, il120, il122, il123, il127, il128, il135, il167, il175, il225, il249, il250, il255, il256, il360, il370, il384, il600, il700, il740, il900, il940, il1024, il1600, il4800, il64000, il125000, il262143, il1000000000, iI_toInt, iI_add, iI_sub, iI_mul, iI_neg, iI_lt, iI_le, iI_eq, iI_n, iI_in, iI_div, iI_mod, iI_shm, iI_and1, iI_and7, iI_and63, iI_shr3, iI_shr6, rd_I, ob, Option.some.injEq, exists_eq_left', exists_eq_left, true_and, and_true, fqI, fqJ, eq_self, true_or, or_true, bP_0, bP_0i, npP, bP_1i, bP_b, not_true_eq_false, not_false_eq_true, false_implies, true_implies, implies_true, Classical.not_not, and_self]
          intro g3 e3
          obtain ⟨f3, r3⟩ := wI (i := 9) (by omega) (by omega) (by omega) e3
          refine k g3 ⟨T02.trans (tkF.one (by omega) f3 r3), ?_, ?_, ?_, fun u => ⟨?_, ?_⟩, fun u => by omega, fun u => absurd (eK.trans ck) u⟩
          · rw [r3, updT_n (by omega), v4, eE]
          · rw [r3, updT_n (by omega), w5e, eA]
          · rw [r3, updT_n (by omega), v6, eK]
          · rw [r3, updT_n (by omega), v7, eW]
          · rw [r3, updT_s, eW]
        · rw [ite_f c2] at ck'
          by_cases c3 : allI dgC T q (rnE T n q) ∧ rnE T n q - q ≤ 8
          · rw [ite_t c3] at ck'; omega
          · rw [ite_f c3] at ck'; omega
      · rw [ite_f ck]
        refine k g2 ⟨T02, by rw [v4, eE], by rw [w5e, eA], by rw [v6, eK], fun u => absurd (eK.symm.trans u) ck, fun u => ⟨by rw [v72 (eK.symm.trans u), eV], by rw [v8, eS]⟩, fun _ => w9e⟩
  · rw [ite_f c]
    have eK : tkK T n m p = 4 := by unfold tkK; rw [hq, ite_t (by omega)]
    have eE : tkE T n m p = q := by unfold tkE; rw [hq, ite_t (by omega)]
    have eA : tkA T n m p = mnZ n m := by unfold tkA; rw [hq, ite_t (by omega)]
    intro g1 e1
    obtain ⟨f1, r1⟩ := wI (i := 5) (by omega) (by omega) (by omega) e1
    have O1 : ob g1 tx ci := f1.gr.ob O
    simp (disch := omega) only [O1, -Int.reduceToNat, -Int32.reduceToNatClampNeg, il0, il1, il2, il3, il4, il5, il6, il7, il8, il9, il10, il11, il12, il13, il14, il15, il16, il17, il18, il19, il20, il21, il22, il23, il24, il25, il26, il27, il28, il29, il30, il31, il32, il35, il36, il38, il40, il42, il43, il44, il45, il46, il47, il48, il49, il50, il51, il52, il57, il59, il60, il63, il64, il75, il80, il95, il96, il97, il98, il99, il100, il120, il122, il123, il127, il128, il135, il167, il175, il225, il249, il250, il255, il256, il360, il370, il384, il600, il700, il740, il900, il940, il1024, il1600, il4800, il64000, il125000, il262143, il1000000000, iI_toInt, iI_add, iI_sub, iI_mul, iI_neg, iI_lt, iI_le, iI_eq, iI_n, iI_in, iI_div, iI_mod, iI_shm, iI_and1, iI_and7, iI_and63, iI_shr3, iI_shr6, rd_I, ob, Option.some.injEq, exists_eq_left', exists_eq_left, true_and, and_true, fqI, fqJ, eq_self, true_or, or_true, bP_0, bP_0i, npP, bP_1i, bP_b, not_true_eq_false, not_false_eq_true, false_implies, true_implies, implies_true, Classical.not_not, and_self]
    intro g2 e2
    obtain ⟨f2, r2⟩ := wI (i := 6) (by omega) (by omega) (by omega) e2
    refine k g2 ⟨S.t.trans ((tkF.one (by omega) f1 r1).trans (tkF.one (by omega) f2 r2)), ?_, ?_, ?_, fun u => by omega, fun u => by omega, fun _ => ?_⟩
    · rw [r2, updT_n (by omega), r1, updT_n (by omega), g4, eE]
    · rw [r2, updT_n (by omega), r1, updT_s, eA]
    · rw [r2, updT_s, eK]
    · rw [r2, updT_n (by omega), r1, updT_n (by omega), S.s9]
theorem c_advStep {K30 : AH → Nat → Int32 → Prop} (S : SkS T h0 h tx ci n i) (ht : tx ≠ 1) (b : 0 ≤ i ∧ i < mnZ n m) (hn : n ≤ 940) (hmn : mnZ n m ≤ n) (w : whC (T i)) (k : ∀ h', SkS T h0 h' tx ci n (i + 1) → Fr [tx] [] [] h h' → K30 h' tx (iI (mnZ n m))) : wb_X7_advance_30 ci K30 h tx (iI (mnZ n m)) postV := by
  obtain ⟨x1, x2, x3, x4⟩ := S.X
  have O := S.o
  have pg := S.pp
  have g4 := S.s4
  have bt := x4 i
  have fin : wb_X7_advance_66 ci K30 h tx (iI (mnZ n m)) postV := by
    unfold wb_X7_advance_66
    simp (disch := omega) only [O, fd0, fd1, fd2, fd3, fd4, fd5, fd6, fd7, fd8, fd9, fd10, fd11, fd12, fd13, fd14, fd15, fd16, fd17, fd18, fd19, fd20, fd21, fd22, fd23, fd24, fd25, fd26, fd27, fd28, fd29, fd30, fd31, fd32, fd33, fd34, fd35, fd36, fd37, fd38, fd39, fd40, fd41, fd42, fd43, fd44, fd45, fd46, fd47, fd48, fd49, fd50, fd51, fd52, g4, -Int.reduceToNat, -Int32.reduceToNatClampNeg, il0, il1, il2, il3, il4, il5, il6, il7, il8, il9, il10, il11, il12, il13, il14, il15, il16, il17, il18, il19, il20, il21, il22, il23, il24, il25, il26, il27, il28, il29, il30, il31, il32, il35, il36, il38, il40, il42, il43, il44, il45, il46, il47, il48, il49, il50, il51, il52, il57, il59, il60, il63, il64, il75, il80, il95, il96, il97, il98, il99, il100, il120, il122, il123, il127, il128, il135, il167, il175, il225, il249, il250, il255, il256, il360, il370, il384, il600, il700, il740, il900, il940, il1024, il1600, il4800, il64000, il125000, il262143, il1000000000, iI_toInt, iI_add, iI_sub, iI_mul, iI_neg, iI_lt, iI_le, iI_eq, iI_n, iI_in, iI_div, iI_mod, iI_shm, iI_and1, iI_and7, iI_and63, iI_shr3, iI_shr6, rd_I, ob, Option.some.injEq, exists_eq_left', exists_eq_left, true_and, and_true, fqI, fqJ, eq_self, true_or, or_true, bP_0, bP_0i, npP, bP_1i, bP_b, not_true_eq_false, not_false_eq_true, false_implies, true_implies, implies_true, Classical.not_not, and_self]
    intro g3 e3
    obtain ⟨f3, r3⟩ := wI (i := 4) (by omega) (by omega) (by omega) e3
    exact k g3 ⟨f3.gr.ob O, by rw [f3.aPe]; exact pg, S.X.fr f3 (by simpa using ht.symm), S.t.trans (tkF.one (by omega) f3 r3), by rw [r3, updT_n (by omega), S.s2], by rw [r3, updT_s], by rw [r3, updT_n (by omega), S.s8], by rw [r3, updT_n (by omega), S.s9]⟩ f3
  unfold wb_X7_advance_30
  simp (disch := omega) only [O, pg, x1, x2, x3, fd0, fd1, fd2, fd3, fd4, fd5, fd6, fd7, fd8, fd9, fd10, fd11, fd12, fd13, fd14, fd15, fd16, fd17, fd18, fd19, fd20, fd21, fd22, fd23, fd24, fd25, fd26, fd27, fd28, fd29, fd30, fd31, fd32, fd33, fd34, fd35, fd36, fd37, fd38, fd39, fd40, fd41, fd42, fd43, fd44, fd45, fd46, fd47, fd48, fd49, fd50, fd51, fd52, g4, -Int.reduceToNat, -Int32.reduceToNatClampNeg, il0, il1, il2, il3, il4, il5, il6, il7, il8, il9, il10, il11, il12, il13, il14, il15, il16, il17, il18, il19, il20, il21, il22, il23, il24, il25, il26, il27, il28, il29, il30, il31, il32, il35, il36, il38, il40, il42, il43, il44, il45, il46, il47, il48, il49, il50, il51, il52, il57, il59, il60, il63, il64, il75, il80, il95, il96, il97, il98, il99, il100, il120, il122, il123, il127, il128, il135, il167, il175, il225, il249, il250, il255, il256, il360, il370, il384, il600, il700, il740, il900, il940, il1024, il1600, il4800, il64000, il125000, il262143, il1000000000, iI_toInt, iI_add, iI_sub, iI_mul, iI_neg, iI_lt, iI_le, iI_eq, iI_n, iI_in, iI_div, iI_mod, iI_shm, iI_and1, iI_and7, iI_and63, iI_shr3, iI_shr6, rd_I, ob, Option.some.injEq, exists_eq_left', exists_eq_left, true_and, and_true, fqI, fqJ, eq_self, true_or, or_true, bP_0, bP_0i, npP, bP_1i, bP_b, not_true_eq_false, not_false_eq_true, false_implies, true_implies, implies_true, Classical.not_not, and_self, cP, cP', ite_n]
  rw [ite_f (by omega)]
  by_cases c : T i = 32
  · rw [ite_t c]; exact fin
  · rw [ite_f c, ite_t (w.elim (fun u => absurd u c) id)]; exact fin
theorem c_advStop {K30 : AH → Nat → Int32 → Prop} (S : SkS T h0 h tx ci n i) (b : 0 ≤ i ∧ i ≤ n) (hn : n ≤ 940) (hmn : 0 ≤ mnZ n m ∧ mnZ n m ≤ n) (w : i < mnZ n m → ¬ whC (T i)) (k : wb_X7_advance_79 ci h tx (iI (mnZ n m)) postV) : wb_X7_advance_30 ci K30 h tx (iI (mnZ n m)) postV := by
  obtain ⟨x1, x2, x3, x4⟩ := S.X
  have O := S.o
  have pg := S.pp
  have g4 := S.s4
  have bt := x4 i
  unfold wb_X7_advance_30
  simp (disch := omega) only [O, fd0, fd1, fd2, fd3, fd4, fd5, fd6, fd7, fd8, fd9, fd10, fd11, fd12, fd13, fd14, fd15, fd16, fd17, fd18, fd19, fd20, fd21, fd22, fd23, fd24, fd25, fd26, fd27, fd28, fd29, fd30, fd31, fd32, fd33, fd34, fd35, fd36, fd37, fd38, fd39, fd40, fd41, fd42, fd43, fd44, fd45, fd46, fd47, fd48, fd49, fd50, fd51, fd52, g4, -Int.reduceToNat, -Int32.reduceToNatClampNeg, il0, il1, il2, il3, il4, il5, il6, il7, il8, il9, il10, il11, il12, il13, il14, il15, il16, il17, il18, il19, il20, il21, il22, il23, il24, il25, il26, il27, il28, il29, il30, il31, il32, il35, il36, il38, il40, il42, il43, il44, il45, il46, il47, il48, il49, il50, il51, il52, il57, il59, il60, il63, il64, il75, il80, il95, il96, il97, il98, il99, il100, il120, il122, il123, il127, il128, il135, il167, il175, il225, il249, il250, il255, il256, il360, il370, il384, il600, il700, il740, il900, il940, il1024, il1600, il4800, il64000, il125000, il262143, il1000000000, iI_toInt, iI_add, iI_sub, iI_mul, iI_neg, iI_lt, iI_le, iI_eq, iI_n, iI_in, iI_div, iI_mod, iI_shm, iI_and1, iI_and7, iI_and63, iI_shr3, iI_shr6, rd_I, ob, Option.some.injEq, exists_eq_left', exists_eq_left, true_and, and_true, fqI, fqJ, eq_self, true_or, or_true, bP_0, bP_0i, npP, bP_1i, bP_b, not_true_eq_false, not_false_eq_true, false_implies, true_implies, implies_true, Classical.not_not, and_self, cP, cP', ite_n]
  by_cases c : mnZ n m ≤ i
  · rw [ite_t c]; exact k
  rw [ite_f c]
  have w := w (by omega)
  unfold whC at w
  simp (disch := omega) only [O, pg, x1, x2, x3, fd0, fd1, fd2, fd3, fd4, fd5, fd6, fd7, fd8, fd9, fd10, fd11, fd12, fd13, fd14, fd15, fd16, fd17, fd18, fd19, fd20, fd21, fd22, fd23, fd24, fd25, fd26, fd27, fd28, fd29, fd30, fd31, fd32, fd33, fd34, fd35, fd36, fd37, fd38, fd39, fd40, fd41, fd42, fd43, fd44, fd45, fd46, fd47, fd48, fd49, fd50, fd51, fd52, g4, -Int.reduceToNat, -Int32.reduceToNatClampNeg, il0, il1, il2, il3, il4, il5, il6, il7, il8, il9, il10, il11, il12, il13, il14, il15, il16, il17, il18, il19, il20, il21, il22, il23, il24, il25, il26, il27, il28, il29, il30, il31, il32, il35, il36, il38, il40, il42, il43, il44, il45, il46, il47, il48, il49, il50, il51, il52, il57, il59, il60, il63, il64, il75, il80, il95, il96, il97, il98, il99, il100, il120, il122, il123, il127, il128, il135, il167, il175, il225, il249, il250, il255, il256, il360, il370, il384, il600, il700, il740, il900, il940, il1024, il1600, il4800, il64000, il125000, il262143, il1000000000, iI_toInt, iI_add, iI_sub, iI_mul, iI_neg, iI_lt, iI_le, iI_eq, iI_n, iI_in, iI_div, iI_mod, iI_shm, iI_and1, iI_and7, iI_and63, iI_shr3, iI_shr6, rd_I, ob, Option.some.injEq, exists_eq_left', exists_eq_left, true_and, and_true, fqI, fqJ, eq_self, true_or, or_true, bP_0, bP_0i, npP, bP_1i, bP_b, not_true_eq_false, not_false_eq_true, false_implies, true_implies, implies_true, Classical.not_not, and_self, cP, cP', ite_n]
  rw [ite_f (fun u => w (Or.inl u)), ite_f (fun u => w (Or.inr u))]
  exact k
theorem skT_spec (h1 : 0 ≤ p ∧ p ≤ n) : (p ≤ skT T n m p ∧ skT T n m p ≤ n) ∧ (∀ j, p ≤ j → j < skT T n m p → whC (T j) ∧ j < mnZ n m) ∧ (skT T n m p < mnZ n m → ¬ whC (T (skT T n m p))) := by
  obtain ⟨⟨s1, s2⟩, s3, s4⟩ := fz_spec (P := fun i => ¬ whC (T i)) (mnZ n m - p).toNat p
  have hE : fz (fun i => ¬ whC (T i)) (mnZ n m - p).toNat p = skT T n m p := rfl
  rw [hE] at s1 s2 s3 s4
  have hmn : mnZ n m ≤ n := by unfold mnZ; split <;> omega
  exact ⟨⟨s1, by omega⟩, fun j j1 j2 => ⟨Classical.not_not.mp (s3 j j1 j2), by omega⟩, fun u => s4 (by omega)⟩
theorem c_advance (O : ob h tx ci) (hp : aP h tx 1 = some 1) (X : TXs h T) (ht : tx ≠ 1) (hb : tb ≠ tx) (B : TBl h tx tb) (en : rd h tx 2 = n) (em : rd h tx 3 = m) (e4 : rd h tx 4 = p) (ef : rd h tx 10 = 0) (h1 : 0 ≤ p ∧ p ≤ n) (hn : n ≤ 940) (hm : 0 ≤ m ∧ m ≤ 1000) (k : ∀ h', AdO T n m p h h' tx → postV h') : wp_X7_advance ci h tx postV := by
  obtain ⟨⟨s1, s2⟩, s3, s4⟩ := skT_spec (T := T) (m := m) h1
  generalize hq : skT T n m p = q at s1 s2 s3 s4
  have hmn : 0 ≤ mnZ n m ∧ mnZ n m ≤ n := by unfold mnZ; split <;> omega
  unfold wp_X7_advance
  simp (disch := omega) only [O, fd0, fd1, fd2, fd3, fd4, fd5, fd6, fd7, fd8, fd9, fd10, fd11, fd12, fd13, fd14, fd15, fd16, fd17, fd18, fd19, fd20, fd21, fd22, fd23, fd24, fd25, fd26, fd27, fd28, fd29, fd30, fd31, fd32, fd33, fd34, fd35, fd36, fd37, fd38, fd39, fd40, fd41, fd42, fd43, fd44, fd45, fd46, fd47, fd48, fd49, fd50, fd51, fd52, ef, -Int.reduceToNat, -Int32.reduceToNatClampNeg, il0, il1, il2, il3, il4, il5, il6, il7, il8, il9, il10, il11, il12, il13, il14, il15, il16, il17, il18, il19, il20, il21, il22, il23, il24, il25, il26, il27, il28, il29, il30, il31, il32, il35, il36, il38, il40, il42, il43, il44, il45, il46, il47, il48, il49, il50, il51, il52, il57, il59, il60, il63, il64, il75, il80, il95, il96, il97, il98, il99, il100, il120, il122, il123, il127, il128, il135, il167, il175, il225, il249, il250, il255, il256, il360, il370, il384, il600, il700, il740, il900, il940, il1024, il1600, il4800, il64000, il125000, il262143, il1000000000, iI_toInt, iI_add, iI_sub, iI_mul, iI_neg, iI_lt, iI_le, iI_eq, iI_n, iI_in, iI_div, iI_mod, iI_shm, iI_and1, iI_and7, iI_and63, iI_shr3, iI_shr6, rd_I, ob, Option.some.injEq, exists_eq_left', exists_eq_left, true_and, and_true, fqI, fqJ, eq_self, true_or, or_true, bP_0, bP_0i, npP, bP_1i, bP_b, not_true_eq_false, not_false_eq_true, false_implies, true_implies, implies_true, Classical.not_not, and_self, cP, cP', ite_n, ite_t]
  intro g1 e1
  obtain ⟨f1, r1⟩ := wI (i := 9) (by omega) (by omega) (by omega) e1
  have O1 : ob g1 tx ci := f1.gr.ob O
  simp (disch := omega) only [O1, -Int.reduceToNat, -Int32.reduceToNatClampNeg, il0, il1, il2, il3, il4, il5, il6, il7, il8, il9, il10, il11, il12, il13, il14, il15, il16, il17, il18, il19, il20, il21, il22, il23, il24, il25, il26, il27, il28, il29, il30, il31, il32, il35, il36, il38, il40, il42, il43, il44, il45, il46, il47, il48, il49, il50, il51, il52, il57, il59, il60, il63, il64, il75, il80, il95, il96, il97, il98, il99, il100, il120, il122, il123, il127, il128, il135, il167, il175, il225, il249, il250, il255, il256, il360, il370, il384, il600, il700, il740, il900, il940, il1024, il1600, il4800, il64000, il125000, il262143, il1000000000, iI_toInt, iI_add, iI_sub, iI_mul, iI_neg, iI_lt, iI_le, iI_eq, iI_n, iI_in, iI_div, iI_mod, iI_shm, iI_and1, iI_and7, iI_and63, iI_shr3, iI_shr6, rd_I, ob, Option.some.injEq, exists_eq_left', exists_eq_left, true_and, and_true, fqI, fqJ, eq_self, true_or, or_true, bP_0, bP_0i, npP, bP_1i, bP_b, not_true_eq_false, not_false_eq_true, false_implies, true_implies, implies_true, Classical.not_not, and_self]
  intro g2 e2
  obtain ⟨f2, r2⟩ := wI (i := 8) (by omega) (by omega) (by omega) e2
  have O2 : ob g2 tx ci := f2.gr.ob O1
  have F12 := f1.trans f2
  have q2 : rd g2 tx 2 = n := by rw [r2, updT_n (by omega), r1, updT_n (by omega), en]
  have q3 : rd g2 tx 3 = m := by rw [r2, updT_n (by omega), r1, updT_n (by omega), em]
  have S2 : SkS T h g2 tx ci n p := ⟨O2, by rw [f2.aPe, f1.aPe]; exact hp, (X.fr f1 (by simpa using ht.symm)).fr f2 (by simpa using ht.symm), (tkF.one (by omega) f1 r1).trans (tkF.one (by omega) f2 r2), q2, by rw [r2, updT_n (by omega), r1, updT_n (by omega), e4], by rw [r2, updT_s], by rw [r2, updT_n (by omega), r1, updT_s]⟩
  have B2 : TBl g2 tx tb := by
    obtain ⟨b1, b2, b3, b4⟩ := B
    exact ⟨by rw [f2.aPe, f1.aPe]; exact b1, f2.gr.ob (f1.gr.ob b2), by rw [f2.2.2.2.1, f1.2.2.2.1]; exact b3, fun i i0 i1 => by rw [f2.row (by simpa using hb), f1.row (by simpa using hb)]; exact b4 i i0 i1⟩
  have emn : mn (iI n) (iI m) = iI (mnZ n m) := mnI (by omega) (by omega) (by omega) (by omega)
  simp (disch := omega) only [O2, fd0, fd1, fd2, fd3, fd4, fd5, fd6, fd7, fd8, fd9, fd10, fd11, fd12, fd13, fd14, fd15, fd16, fd17, fd18, fd19, fd20, fd21, fd22, fd23, fd24, fd25, fd26, fd27, fd28, fd29, fd30, fd31, fd32, fd33, fd34, fd35, fd36, fd37, fd38, fd39, fd40, fd41, fd42, fd43, fd44, fd45, fd46, fd47, fd48, fd49, fd50, fd51, fd52, q2, q3, emn, ob, Option.some.injEq, exists_eq_left', exists_eq_left, true_and, and_true, fqI, fqJ, eq_self, true_or, or_true, bP_0, bP_0i, npP, bP_1i, bP_b, not_true_eq_false, not_false_eq_true, false_implies, true_implies, implies_true, Classical.not_not, and_self]
  have loop : ∀ (d : Nat) (g : AH) (i : Int), i + d = q → p ≤ i → SkS T h g tx ci n i → TBl g tx tb → wl_X7_advance_30 ci postV (d + 1) g tx (iI (mnZ n m)) := by
    intro d
    induction d with
    | zero =>
      intro g i hi pi S Bg
      have ei : i = q := by omega
      subst ei
      exact c_advStop S (by omega) hn hmn s4 (c_advA S ht hb Bg hq (by omega) hn hm k)
    | succ d ih =>
      intro g i hi pi S Bg
      have u := s3 i pi (by omega)
      refine c_advStep S ht ⟨by omega, u.2⟩ hn hmn.2 u.1 fun h' S' F => ih h' (i + 1) (by omega) (by omega) S' ?_
      obtain ⟨b1, b2, b3, b4⟩ := Bg
      exact ⟨by rw [F.aPe]; exact b1, F.gr.ob b2, by rw [F.2.2.2.1]; exact b3, fun i i0 i1 => by rw [F.row (by simpa using hb)]; exact b4 i i0 i1⟩
  exact ⟨(q - p).toNat + 1, loop (q - p).toNat g2 p (by omega) (Int.le_refl _) S2 B2⟩
theorem c_advanceF (O : ob h tx ci) (ef : rd h tx 10 ≠ 0) (k : postV h) : wp_X7_advance ci h tx postV := by
  have b := rd_bd h tx 10
  unfold wp_X7_advance
  simp (disch := omega) only [O, fd0, fd1, fd2, fd3, fd4, fd5, fd6, fd7, fd8, fd9, fd10, fd11, fd12, fd13, fd14, fd15, fd16, fd17, fd18, fd19, fd20, fd21, fd22, fd23, fd24, fd25, fd26, fd27, fd28, fd29, fd30, fd31, fd32, fd33, fd34, fd35, fd36, fd37, fd38, fd39, fd40, fd41, fd42, fd43, fd44, fd45, fd46, fd47, fd48, fd49, fd50, fd51, fd52, -Int.reduceToNat, -Int32.reduceToNatClampNeg, il0, il1, il2, il3, il4, il5, il6, il7, il8, il9, il10, il11, il12, il13, il14, il15, il16, il17, il18, il19, il20, il21, il22, il23, il24, il25, il26, il27, il28, il29, il30, il31, il32, il35, il36, il38, il40, il42, il43, il44, il45, il46, il47, il48, il49, il50, il51, il52, il57, il59, il60, il63, il64, il75, il80, il95, il96, il97, il98, il99, il100, il120, il122, il123, il127, il128, il135, il167, il175, il225, il249, il250, il255, il256, il360, il370, il384, il600, il700, il740, il900, il940, il1024, il1600, il4800, il64000, il125000, il262143, il1000000000, iI_toInt, iI_add, iI_sub, iI_mul, iI_neg, iI_lt, iI_le, iI_eq, iI_n, iI_in, iI_div, iI_mod, iI_shm, iI_and1, iI_and7, iI_and63, iI_shr3, iI_shr6, rd_I, ob, Option.some.injEq, exists_eq_left', exists_eq_left, true_and, and_true, fqI, fqJ, eq_self, true_or, or_true, bP_0, bP_0i, npP, bP_1i, bP_b, not_true_eq_false, not_false_eq_true, false_implies, true_implies, implies_true, Classical.not_not, and_self, cP, cP', ite_n, ite_f]
  exact k
end ADW
