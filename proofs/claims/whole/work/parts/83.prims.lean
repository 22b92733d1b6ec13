/-! the class's readers, on a reader's four numbers: FAULT, its place, the next sign, where the TOKEN began -/
section PRM
variable {h h1 h2 h' h0 : AH} {tx ci tb la : Nat} {postV : AH → Prop} {post : AH → Int32 → Prop} {a b c d r x y n m p f fa q e k i lo hi v w : Int} {T : Int → Int} {l : List Int} {N : Int → List Int}
theorem mnZ_bd (h1 : 0 ≤ n) (h2 : 0 ≤ m) : 0 ≤ mnZ n m ∧ mnZ n m ≤ n ∧ mnZ n m ≤ m ∧ (mnZ n m = n ∨ mnZ n m = m) := by unfold mnZ; split <;> omega
theorem rnE_spec (h1 : q ≤ n) : (q ≤ rnE T n q ∧ rnE T n q ≤ n) ∧ (∀ j, q ≤ j → j < rnE T n q → alC (T j)) ∧ (rnE T n q < n → ¬ alC (T (rnE T n q))) := by
  obtain ⟨⟨s1, s2⟩, s3, s4⟩ := fz_spec (P := fun i => ¬ alC (T i)) (n - q).toNat q
  have hE : fz (fun i => ¬ alC (T i)) (n - q).toNat q = rnE T n q := rfl
  rw [hE] at s1 s2 s3 s4
  exact ⟨⟨s1, by omega⟩, fun j j1 j2 => Classical.not_not.mp (s3 j j1 j2), fun u => s4 (by omega)⟩
theorem rnK_cases : (rnK T q e = 0) ∨ (rnK T q e = 1 ∧ e ≠ q ∧ allI ltC T q e ∧ e - q ≤ 6) ∨ (rnK T q e = 2 ∧ e ≠ q ∧ allI dgC T q e ∧ e - q ≤ 8) := by
  unfold rnK
  by_cases c0 : e = q
  · rw [ite_t c0]; exact Or.inl rfl
  rw [ite_f c0]
  by_cases c1 : allI ltC T q e ∧ e - q ≤ 6
  · rw [ite_t c1]; exact Or.inr (Or.inl ⟨rfl, c0, c1.1, c1.2⟩)
  rw [ite_f c1]
  by_cases c2 : allI dgC T q e ∧ e - q ≤ 8
  · rw [ite_t c2]; exact Or.inr (Or.inr ⟨rfl, c0, c2.1, c2.2⟩)
  rw [ite_f c2]
  exact Or.inl rfl
theorem tk_bd (h1 : 0 ≤ p ∧ p ≤ n) (h2 : 0 ≤ m) : (0 ≤ tkA T n m p ∧ tkA T n m p ≤ n) ∧ (p ≤ tkE T n m p ∧ tkE T n m p ≤ n) ∧ (0 ≤ tkK T n m p ∧ tkK T n m p ≤ 4) := by
  obtain ⟨⟨s1, s2⟩, s3, s4⟩ := skT_spec (T := T) (m := m) h1
  have hm := mnZ_bd (n := n) (m := m) (by omega) h2
  unfold tkA tkE tkK
  by_cases c : mnZ n m ≤ skT T n m p
  · rw [ite_t c, ite_t c, ite_t c]; omega
  rw [ite_f c, ite_f c, ite_f c]
  by_cases c1 : T (skT T n m p) = 59
  · rw [ite_t c1, ite_t c1]; omega
  rw [ite_f c1, ite_f c1]
  have r := (rnE_spec (T := T) (q := skT T n m p) (n := n) (by omega)).1
  rcases rnK_cases (T := T) (q := skT T n m p) (e := rnE T n (skT T n m p)) with u | u | u <;> omega
theorem tk_run (hk : tkK T n m p = 1 ∨ tkK T n m p = 2) : skT T n m p < mnZ n m ∧ T (skT T n m p) ≠ 59 ∧ tkA T n m p = skT T n m p ∧ tkE T n m p = rnE T n (skT T n m p) ∧ tkK T n m p = rnK T (skT T n m p) (rnE T n (skT T n m p)) := by
  unfold tkK at hk
  by_cases c : mnZ n m ≤ skT T n m p
  · rw [ite_t c] at hk; omega
  rw [ite_f c] at hk
  by_cases c1 : T (skT T n m p) = 59
  · rw [ite_t c1] at hk; omega
  refine ⟨by omega, c1, ?_, ?_, ?_⟩
  · unfold tkA; rw [ite_f c]
  · unfold tkE; rw [ite_f c, ite_f c1]
  · unfold tkK; rw [ite_f c, ite_f c1]
theorem tkW_ok (h1 : 0 ≤ p ∧ p ≤ n) (hk : tkK T n m p = 1) : Ltr (tkW T n m p) ∧ (tkW T n m p).length ≤ 6 := by
  obtain ⟨a1, a2, a3, a4, a5⟩ := tk_run (Or.inl hk)
  obtain ⟨⟨s1, s2⟩, s3, s4⟩ := skT_spec (T := T) (m := m) h1
  have r := (rnE_spec (T := T) (q := skT T n m p) (n := n) (by omega)).1
  unfold tkW
  generalize skT T n m p = q at *
  generalize rnE T n q = e at *
  rcases rnK_cases (T := T) (q := q) (e := e) with u | ⟨u, u1, u2, u3⟩ | u
  · omega
  · have lt := rnW_lt (T := T) (q := q) (e - q).toNat
    rw [show q + ((e - q).toNat : Int) = e by omega] at lt
    have len := rnW_l (T := T) r.1
    exact ⟨lt u2, by omega⟩
  · omega
theorem tkV_ok (h1 : 0 ≤ p ∧ p ≤ n) (hk : tkK T n m p = 2) : (0 ≤ tkV T n m p ∧ tkV T n m p < 100000000) ∧ (1 ≤ tkS T n m p ∧ tkS T n m p ≤ 8) ∧ allI dgC T (tkA T n m p) (tkA T n m p + tkS T n m p) ∧ tkA T n m p + tkS T n m p ≤ n ∧ tkV T n m p = rnV T (tkA T n m p) (tkA T n m p + tkS T n m p) := by
  obtain ⟨a1, a2, a3, a4, a5⟩ := tk_run (Or.inr hk)
  obtain ⟨⟨s1, s2⟩, s3, s4⟩ := skT_spec (T := T) (m := m) h1
  have r := (rnE_spec (T := T) (q := skT T n m p) (n := n) (by omega)).1
  rw [a3]
  unfold tkV tkS
  generalize skT T n m p = q at *
  generalize rnE T n q = e at *
  rw [show q + (e - q) = e by omega]
  rcases rnK_cases (T := T) (q := q) (e := e) with u | u | ⟨u, u1, u2, u3⟩
  · omega
  · omega
  · have bd := rnV_bd (T := T) (q := q) (e - q).toNat (by rw [show q + ((e - q).toNat : Int) = e by omega]; exact u2)
    rw [show q + ((e - q).toNat : Int) = e by omega] at bd
    have bnd := p10_8 (k := (e - q).toNat) (by omega)
    exact ⟨by omega, by omega, u2, by omega, rfl⟩
theorem kwI_bd : -1 ≤ kwI l ∧ kwI l < 18 := by
  unfold kwI
  rcases fstI_spec (P := fun i => kwL.getD i.toNat [] = l) 18 0 (by omega) with u | u <;> omega
/-- a reader -/
def RD (T : Int → Int) (n m : Int) (h : AH) (tx ci tb : Nat) (f fa p a : Int) : Prop := (ob h tx ci) ∧ (aP h tx 1 = some 1) ∧ (TXs h T) ∧ (TBl h tx tb) ∧ (rd h tx 2 = n) ∧ (rd h tx 3 = m) ∧ (rd h tx 10 = f) ∧ (rd h tx 11 = fa) ∧ (rd h tx 4 = p) ∧ (rd h tx 5 = a) ∧ (0 ≤ p ∧ p ≤ n) ∧ (0 ≤ a ∧ a ≤ n) ∧ (n ≤ 940) ∧ (0 ≤ m ∧ m ≤ 1000) ∧ (tx ≠ 1 ∧ tb ≠ tx)
theorem RD.o {T : Int → Int} {n m : Int} {h : AH} {tx ci tb : Nat} {f fa p a : Int} (R : RD T n m h tx ci tb f fa p a) : ob h tx ci := R.1
theorem RD.pp {T : Int → Int} {n m : Int} {h : AH} {tx ci tb : Nat} {f fa p a : Int} (R : RD T n m h tx ci tb f fa p a) : aP h tx 1 = some 1 := R.2.1
theorem RD.X {T : Int → Int} {n m : Int} {h : AH} {tx ci tb : Nat} {f fa p a : Int} (R : RD T n m h tx ci tb f fa p a) : TXs h T := R.2.2.1
theorem RD.B {T : Int → Int} {n m : Int} {h : AH} {tx ci tb : Nat} {f fa p a : Int} (R : RD T n m h tx ci tb f fa p a) : TBl h tx tb := R.2.2.2.1
theorem RD.s2 {T : Int → Int} {n m : Int} {h : AH} {tx ci tb : Nat} {f fa p a : Int} (R : RD T n m h tx ci tb f fa p a) : rd h tx 2 = n := R.2.2.2.2.1
theorem RD.s3 {T : Int → Int} {n m : Int} {h : AH} {tx ci tb : Nat} {f fa p a : Int} (R : RD T n m h tx ci tb f fa p a) : rd h tx 3 = m := R.2.2.2.2.2.1
theorem RD.sf {T : Int → Int} {n m : Int} {h : AH} {tx ci tb : Nat} {f fa p a : Int} (R : RD T n m h tx ci tb f fa p a) : rd h tx 10 = f := R.2.2.2.2.2.2.1
theorem RD.sa {T : Int → Int} {n m : Int} {h : AH} {tx ci tb : Nat} {f fa p a : Int} (R : RD T n m h tx ci tb f fa p a) : rd h tx 11 = fa := R.2.2.2.2.2.2.2.1
theorem RD.sp {T : Int → Int} {n m : Int} {h : AH} {tx ci tb : Nat} {f fa p a : Int} (R : RD T n m h tx ci tb f fa p a) : rd h tx 4 = p := R.2.2.2.2.2.2.2.2.1
theorem RD.ss {T : Int → Int} {n m : Int} {h : AH} {tx ci tb : Nat} {f fa p a : Int} (R : RD T n m h tx ci tb f fa p a) : rd h tx 5 = a := R.2.2.2.2.2.2.2.2.2.1
theorem RD.hp {T : Int → Int} {n m : Int} {h : AH} {tx ci tb : Nat} {f fa p a : Int} (R : RD T n m h tx ci tb f fa p a) : 0 ≤ p ∧ p ≤ n := R.2.2.2.2.2.2.2.2.2.2.1
theorem RD.ha {T : Int → Int} {n m : Int} {h : AH} {tx ci tb : Nat} {f fa p a : Int} (R : RD T n m h tx ci tb f fa p a) : 0 ≤ a ∧ a ≤ n := R.2.2.2.2.2.2.2.2.2.2.2.1
theorem RD.hn {T : Int → Int} {n m : Int} {h : AH} {tx ci tb : Nat} {f fa p a : Int} (R : RD T n m h tx ci tb f fa p a) : n ≤ 940 := R.2.2.2.2.2.2.2.2.2.2.2.2.1
theorem RD.hm {T : Int → Int} {n m : Int} {h : AH} {tx ci tb : Nat} {f fa p a : Int} (R : RD T n m h tx ci tb f fa p a) : 0 ≤ m ∧ m ≤ 1000 := R.2.2.2.2.2.2.2.2.2.2.2.2.2.1
theorem RD.ht {T : Int → Int} {n m : Int} {h : AH} {tx ci tb : Nat} {f fa p a : Int} (R : RD T n m h tx ci tb f fa p a) : tx ≠ 1 ∧ tb ≠ tx := R.2.2.2.2.2.2.2.2.2.2.2.2.2.2
def tfF (h h' : AH) (tx : Nat) : Prop := Fr [tx] [] [] h h' ∧ ∀ j, j ∉ [(4 : Int), 5, 6, 7, 8, 9, 10, 11] → rd h' tx j = rd h tx j
theorem tfF.trans (u : tfF h h1 tx) (v : tfF h1 h2 tx) : tfF h h2 tx := ⟨u.1.trans v.1, fun j hj => (v.2 j hj).trans (u.2 j hj)⟩
theorem tfF.refl (h : AH) (tx : Nat) : tfF h h tx := ⟨(Fr.refl h).mono (by simp) (by simp) (by simp), fun _ _ => rfl⟩
theorem tkF.tf (u : tkF h h' tx) : tfF h h' tx := ⟨u.1, fun j hj => u.2 j fun q => hj (by simp only [List.mem_cons, List.not_mem_nil, or_false] at q ⊢; omega)⟩
theorem tfF.one {i v : Int} (hi : 4 ≤ i ∧ i ≤ 11) (F : Fr [tx] [] [] h h') (R : rd h' tx = updT (rd h tx) i v) : tfF h h' tx := ⟨F, fun j hj => by
  rw [R, updT_n]
  intro q
  rw [q] at hj
  simp only [List.mem_cons, List.not_mem_nil, or_false] at hj
  omega⟩
theorem RD.to {f' fa' p' a' : Int} (R : RD T n m h tx ci tb f fa p a) (t : tfF h h' tx) (e1 : rd h' tx 10 = f') (e2 : rd h' tx 11 = fa') (e3 : rd h' tx 4 = p') (e4 : rd h' tx 5 = a') (hp : 0 ≤ p' ∧ p' ≤ n) (ha : 0 ≤ a' ∧ a' ≤ n) : RD T n m h' tx ci tb f' fa' p' a' := by
  obtain ⟨b1, b2, b3, b4⟩ := R.B
  have F := t.1
  exact ⟨F.gr.ob R.o, by rw [F.aPe]; exact R.pp, R.X.fr F (by simpa using R.ht.1.symm), ⟨by rw [F.aPe]; exact b1, F.gr.ob b2, by rw [F.2.2.2.1]; exact b3, fun i i0 i1 => by rw [F.row (by simpa using R.ht.2)]; exact b4 i i0 i1⟩, by rw [t.2 2 (by decide)]; exact R.s2, by rw [t.2 3 (by decide)]; exact R.s3, e1, e2, e3, e4, hp, ha, R.hn, R.hm, R.ht⟩
theorem c_fail0 (R : RD T n m h tx ci tb 0 fa p a) (hk : 1 ≤ k ∧ k ≤ 4) (K : ∀ h', tfF h h' tx → RD T n m h' tx ci tb k a p a → postV h') : wp_X7_fail ci h tx (iI k) postV := by
  have O := R.o
  have ha := R.ha
  have hn := R.hn
  unfold wp_X7_fail
  simp (disch := omega) only [O, fd0, fd1, fd2, fd3, fd4, fd5, fd6, fd7, fd8, fd9, fd10, fd11, fd12, fd13, fd14, fd15, fd16, fd17, fd18, fd19, fd20, fd21, fd22, fd23, fd24, fd25, fd26, fd27, fd28, fd29, fd30, fd31, fd32, fd33, fd34, fd35, fd36, fd37, fd38, fd39, fd40, fd41, fd42, fd43, fd44, fd45, fd46, fd47, fd48, fd49, fd50, fd51, fd52, R.sf, -Int.reduceToNat, -Int32.reduceToNatClampNeg, il0, il1, il2, il3, il4, il5, il6, il7, il8, il9, il10, il11, il12, il13, il14, il15, il16, il17, il18, il19, il20, il21, il22, il23, il24, il25, il26, il27, il28, il29, il30, il31, il32, il35, il36, il38, il40, il42, il43, il44, il45, il46, il47, il48, il49, il50, il51, il52, il57, il59, il60, il63, il64, il75, il80, il95, il96, il97, il98, il99, il100, il120, il122, il123, il127, il128, il135, il167, il175, il225, il249, il250, il255, il256, il360, il370, il384, il600, il700, il740, il900, il940, il1024, il1600, il4800, il64000, il125000, il262143, il1000000000, iI_toInt, iI_add, iI_sub, iI_mul, iI_neg, iI_lt, iI_le, iI_eq, iI_n, iI_in, iI_div, iI_mod, iI_shm, iI_and1, iI_and7, iI_and63, iI_shr3, iI_shr6, rd_I, ob, Option.some.injEq, exists_eq_left', exists_eq_left, true_and, and_true, fqI, fqJ, eq_self, true_or, or_true, bP_0, bP_0i, npP, bP_1i, bP_b, not_true_eq_false, not_false_eq_true, false_implies, true_implies, implies_true, Classical.not_not, and_self, cP, cP', ite_n, ite_t]
  intro g1 e1
  obtain ⟨f1, r1⟩ := wI (i := 10) (by omega) (by omega) (by omega) e1
  have O1 : ob g1 tx ci := f1.gr.ob O
  have q5 : rd g1 tx 5 = a := by rw [r1, updT_n (by omega), R.ss]
  simp (disch := omega) only [O1, fd0, fd1, fd2, fd3, fd4, fd5, fd6, fd7, fd8, fd9, fd10, fd11, fd12, fd13, fd14, fd15, fd16, fd17, fd18, fd19, fd20, fd21, fd22, fd23, fd24, fd25, fd26, fd27, fd28, fd29, fd30, fd31, fd32, fd33, fd34, fd35, fd36, fd37, fd38, fd39, fd40, fd41, fd42, fd43, fd44, fd45, fd46, fd47, fd48, fd49, fd50, fd51, fd52, q5, -Int.reduceToNat, -Int32.reduceToNatClampNeg, il0, il1, il2, il3, il4, il5, il6, il7, il8, il9, il10, il11, il12, il13, il14, il15, il16, il17, il18, il19, il20, il21, il22, il23, il24, il25, il26, il27, il28, il29, il30, il31, il32, il35, il36, il38, il40, il42, il43, il44, il45, il46, il47, il48, il49, il50, il51, il52, il57, il59, il60, il63, il64, il75, il80, il95, il96, il97, il98, il99, il100, il120, il122, il123, il127, il128, il135, il167, il175, il225, il249, il250, il255, il256, il360, il370, il384, il600, il700, il740, il900, il940, il1024, il1600, il4800, il64000, il125000, il262143, il1000000000, iI_toInt, iI_add, iI_sub, iI_mul, iI_neg, iI_lt, iI_le, iI_eq, iI_n, iI_in, iI_div, iI_mod, iI_shm, iI_and1, iI_and7, iI_and63, iI_shr3, iI_shr6, rd_I, ob, Option.some.injEq, exists_eq_left', exists_eq_left, true_and, and_true, fqI, fqJ, eq_self, true_or, or_true, bP_0, bP_0i, npP, bP_1i, bP_b, not_true_eq_false, not_false_eq_true, false_implies, true_implies, implies_true, Classical.not_not, and_self]
  intro g2 e2
  obtain ⟨f2, r2⟩ := wI (i := 11) (by omega) (by omega) (by omega) e2
  have t := (tfF.one (by omega) f1 r1).trans (tfF.one (by omega) f2 r2)
  exact K g2 t (R.to t (by rw [r2, updT_n (by omega), r1, updT_s]) (by rw [r2, updT_s]) (by rw [r2, updT_n (by omega), r1, updT_n (by omega), R.sp]) (by rw [r2, updT_n (by omega), q5]) R.hp R.ha)
theorem c_failF {kk : Int32} (R : RD T n m h tx ci tb f fa p a) (hf : f ≠ 0) (K : postV h) : wp_X7_fail ci h tx kk postV := by
  have O := R.o
  have b := rd_bd h tx 10
  have sf := R.sf
  unfold wp_X7_fail
  simp (disch := omega) only [O, fd0, fd1, fd2, fd3, fd4, fd5, fd6, fd7, fd8, fd9, fd10, fd11, fd12, fd13, fd14, fd15, fd16, fd17, fd18, fd19, fd20, fd21, fd22, fd23, fd24, fd25, fd26, fd27, fd28, fd29, fd30, fd31, fd32, fd33, fd34, fd35, fd36, fd37, fd38, fd39, fd40, fd41, fd42, fd43, fd44, fd45, fd46, fd47, fd48, fd49, fd50, fd51, fd52, -Int.reduceToNat, -Int32.reduceToNatClampNeg, il0, il1, il2, il3, il4, il5, il6, il7, il8, il9, il10, il11, il12, il13, il14, il15, il16, il17, il18, il19, il20, il21, il22, il23, il24, il25, il26, il27, il28, il29, il30, il31, il32, il35, il36, il38, il40, il42, il43, il44, il45, il46, il47, il48, il49, il50, il51, il52, il57, il59, il60, il63, il64, il75, il80, il95, il96, il97, il98, il99, il100, il120, il122, il123, il127, il128, il135, il167, il175, il225, il249, il250, il255, il256, il360, il370, il384, il600, il700, il740, il900, il940, il1024, il1600, il4800, il64000, il125000, il262143, il1000000000, iI_toInt, iI_add, iI_sub, iI_mul, iI_neg, iI_lt, iI_le, iI_eq, iI_n, iI_in, iI_div, iI_mod, iI_shm, iI_and1, iI_and7, iI_and63, iI_shr3, iI_shr6, rd_I, ob, Option.some.injEq, exists_eq_left', exists_eq_left, true_and, and_true, fqI, fqJ, eq_self, true_or, or_true, bP_0, bP_0i, npP, bP_1i, bP_b, not_true_eq_false, not_false_eq_true, false_implies, true_implies, implies_true, Classical.not_not, and_self, cP, cP', ite_n, ite_f]
  exact K
theorem c_adv0 (R : RD T n m h tx ci tb 0 fa p a) (K : ∀ h', tfF h h' tx → RD T n m h' tx ci tb 0 fa (tkE T n m p) (tkA T n m p) → AdO T n m p h h' tx → postV h') : wp_X7_advance ci h tx postV := by
  refine c_advance R.o R.pp R.X R.ht.1 R.ht.2 R.B R.s2 R.s3 R.sp R.sf R.hp R.hn R.hm fun h' A => ?_
  have A' := A
  obtain ⟨t, a4, a5, a6, a7, a8, a9⟩ := A
  have bd := tk_bd (T := T) R.hp R.hm.1
  have hp := R.hp
  exact K h' t.tf (R.to t.tf (by rw [t.2 10 (by decide), R.sf]) (by rw [t.2 11 (by decide), R.sa]) a4 a5 (by omega) bd.1) A'
theorem c_advF (R : RD T n m h tx ci tb f fa p a) (hf : f ≠ 0) (K : postV h) : wp_X7_advance ci h tx postV := c_advanceF R.o (by rw [R.sf]; exact hf) K
/-- NUMBER -/
def NuR (T : Int → Int) (n m f fa p lo hi f' fa' p' a' v : Int) : Prop := (f ≠ 0 ∧ f' = f ∧ fa' = fa ∧ v = lo) ∨ (f = 0 ∧ tkK T n m p ≠ 2 ∧ f' = 1 ∧ fa' = tkA T n m p ∧ v = lo) ∨ (f = 0 ∧ tkK T n m p = 2 ∧ (tkV T n m p < lo ∨ hi < tkV T n m p) ∧ f' = 2 ∧ fa' = tkA T n m p ∧ v = lo) ∨ (f = 0 ∧ tkK T n m p = 2 ∧ lo ≤ tkV T n m p ∧ tkV T n m p ≤ hi ∧ f' = 0 ∧ fa' = fa ∧ p' = tkE T n m p ∧ a' = tkA T n m p ∧ v = tkV T n m p)
theorem NuR.rng {f' fa' p' a' : Int} (R : NuR T n m f fa p lo hi f' fa' p' a' v) : lo ≤ v ∧ (v = lo ∨ v ≤ hi) := by
  rcases R with u | u | u | u <;> omega
theorem c_num41 (R : RD T n m h tx ci tb f fa p a) (k : post h (iI (iteP (f = 0) (rd h tx 7) lo))) : wb_X7_readNumber_41 ci h tx (iI lo) post := by
  have O := R.o
  have sf := R.sf
  have bf := rd_bd h tx 10
  unfold wb_X7_readNumber_41
  by_cases c : f = 0
  · rw [ite_t c] at k
    simp (disch := omega) only [O, fd0, fd1, fd2, fd3, fd4, fd5, fd6, fd7, fd8, fd9, fd10, fd11, fd12, fd13, fd14, fd15, fd16, fd17, fd18, fd19, fd20, fd21, fd22, fd23, fd24, fd25, fd26, fd27, fd28, fd29, fd30, fd31, fd32, fd33, fd34, fd35, fd36, fd37, fd38, fd39, fd40, fd41, fd42, fd43, fd44, fd45, fd46, fd47, fd48, fd49, fd50, fd51, fd52, sf, c, -Int.reduceToNat, -Int32.reduceToNatClampNeg, il0, il1, il2, il3, il4, il5, il6, il7, il8, il9, il10, il11, il12, il13, il14, il15, il16, il17, il18, il19, il20, il21, il22, il23, il24, il25, il26, il27, il28, il29, il30, il31, il32, il35, il36, il38, il40, il42, il43, il44, il45, il46, il47, il48, il49, il50, il51, il52, il57, il59, il60, il63, il64, il75, il80, il95, il96, il97, il98, il99, il100, il120, il122, il123, il127, il128, il135, il167, il175, il225, il249, il250, il255, il256, il360, il370, il384, il600, il700, il740, il900, il940, il1024, il1600, il4800, il64000, il125000, il262143, il1000000000, iI_toInt, iI_add, iI_sub, iI_mul, iI_neg, iI_lt, iI_le, iI_eq, iI_n, iI_in, iI_div, iI_mod, iI_shm, iI_and1, iI_and7, iI_and63, iI_shr3, iI_shr6, rd_I, ob, Option.some.injEq, exists_eq_left', exists_eq_left, true_and, and_true, fqI, fqJ, eq_self, true_or, or_true, bP_0, bP_0i, npP, bP_1i, bP_b, not_true_eq_false, not_false_eq_true, false_implies, true_implies, implies_true, Classical.not_not, and_self, cP, cP', ite_n, ite_t]
    exact k
  · rw [ite_f c] at k
    simp (disch := omega) only [O, fd0, fd1, fd2, fd3, fd4, fd5, fd6, fd7, fd8, fd9, fd10, fd11, fd12, fd13, fd14, fd15, fd16, fd17, fd18, fd19, fd20, fd21, fd22, fd23, fd24, fd25, fd26, fd27, fd28, fd29, fd30, fd31, fd32, fd33, fd34, fd35, fd36, fd37, fd38, fd39, fd40, fd41, fd42, fd43, fd44, fd45, fd46, fd47, fd48, fd49, fd50, fd51, fd52, sf, -Int.reduceToNat, -Int32.reduceToNatClampNeg, il0, il1, il2, il3, il4, il5, il6, il7, il8, il9, il10, il11, il12, il13, il14, il15, il16, il17, il18, il19, il20, il21, il22, il23, il24, il25, il26, il27, il28, il29, il30, il31, il32, il35, il36, il38, il40, il42, il43, il44, il45, il46, il47, il48, il49, il50, il51, il52, il57, il59, il60, il63, il64, il75, il80, il95, il96, il97, il98, il99, il100, il120, il122, il123, il127, il128, il135, il167, il175, il225, il249, il250, il255, il256, il360, il370, il384, il600, il700, il740, il900, il940, il1024, il1600, il4800, il64000, il125000, il262143, il1000000000, iI_toInt, iI_add, iI_sub, iI_mul, iI_neg, iI_lt, iI_le, iI_eq, iI_n, iI_in, iI_div, iI_mod, iI_shm, iI_and1, iI_and7, iI_and63, iI_shr3, iI_shr6, rd_I, ob, Option.some.injEq, exists_eq_left', exists_eq_left, true_and, and_true, fqI, fqJ, eq_self, true_or, or_true, bP_0, bP_0i, npP, bP_1i, bP_b, not_true_eq_false, not_false_eq_true, false_implies, true_implies, implies_true, Classical.not_not, and_self, cP, cP', ite_n, ite_f]
    exact k
theorem c_readNumber (R : RD T n m h tx ci tb f fa p a) (hlo : 0 ≤ lo ∧ lo ≤ 1000) (hhi : -1 ≤ hi ∧ hi ≤ 1000) (K : ∀ h' f' fa' p' a' v, tfF h h' tx → RD T n m h' tx ci tb f' fa' p' a' → NuR T n m f fa p lo hi f' fa' p' a' v → post h' (iI v)) : wp_X7_readNumber ci h tx (iI lo) (iI hi) post := by
  have O := R.o
  unfold wp_X7_readNumber
  refine ⟨O, ?_⟩
  by_cases hf : f = 0
  · subst hf
    refine c_adv0 R fun g t Rg A => ?_
    obtain ⟨t0, a4, a5, a6, a7, a8, a9⟩ := A
    have Og := Rg.o
    have bk := tk_bd (T := T) R.hp R.hm.1
    by_cases ck : tkK T n m p = 2
    · obtain ⟨v7, v8⟩ := a8 ck
      have vb := (tkV_ok R.hp ck).1
      have k2 : (tkV T n m p < lo ∨ hi < tkV T n m p) → wb_X7_readNumber_36 ci g tx (iI lo) post := fun u => by
        unfold wb_X7_readNumber_36
        refine ⟨Og, ?_⟩
        rw [show (2 : Int32) = iI 2 from rfl]
        refine c_fail0 Rg (by omega) fun g2 t2 R2 => c_num41 R2 ?_
        rw [ite_f (by omega)]
        exact K g2 2 _ _ _ lo (t.trans t2) R2 (Or.inr (Or.inr (Or.inl ⟨rfl, ck, u, rfl, rfl, rfl⟩)))
      have k0 : lo ≤ tkV T n m p → tkV T n m p ≤ hi → wb_X7_readNumber_41 ci g tx (iI lo) post := fun u1 u2 => by
        refine c_num41 Rg ?_
        rw [ite_t rfl, v7]
        exact K g 0 _ _ _ _ t Rg (Or.inr (Or.inr (Or.inr ⟨rfl, ck, u1, u2, rfl, rfl, rfl, rfl, rfl⟩)))
      simp (disch := omega) only [Og, fd0, fd1, fd2, fd3, fd4, fd5, fd6, fd7, fd8, fd9, fd10, fd11, fd12, fd13, fd14, fd15, fd16, fd17, fd18, fd19, fd20, fd21, fd22, fd23, fd24, fd25, fd26, fd27, fd28, fd29, fd30, fd31, fd32, fd33, fd34, fd35, fd36, fd37, fd38, fd39, fd40, fd41, fd42, fd43, fd44, fd45, fd46, fd47, fd48, fd49, fd50, fd51, fd52, a6, ck, v7, -Int.reduceToNat, -Int32.reduceToNatClampNeg, il0, il1, il2, il3, il4, il5, il6, il7, il8, il9, il10, il11, il12, il13, il14, il15, il16, il17, il18, il19, il20, il21, il22, il23, il24, il25, il26, il27, il28, il29, il30, il31, il32, il35, il36, il38, il40, il42, il43, il44, il45, il46, il47, il48, il49, il50, il51, il52, il57, il59, il60, il63, il64, il75, il80, il95, il96, il97, il98, il99, il100, il120, il122, il123, il127, il128, il135, il167, il175, il225, il249, il250, il255, il256, il360, il370, il384, il600, il700, il740, il900, il940, il1024, il1600, il4800, il64000, il125000, il262143, il1000000000, iI_toInt, iI_add, iI_sub, iI_mul, iI_neg, iI_lt, iI_le, iI_eq, iI_n, iI_in, iI_div, iI_mod, iI_shm, iI_and1, iI_and7, iI_and63, iI_shr3, iI_shr6, rd_I, ob, Option.some.injEq, exists_eq_left', exists_eq_left, true_and, and_true, fqI, fqJ, eq_self, true_or, or_true, bP_0, bP_0i, npP, bP_1i, bP_b, not_true_eq_false, not_false_eq_true, false_implies, true_implies, implies_true, Classical.not_not, and_self, cP, cP', ite_n, ite_t]
      by_cases c1 : tkV T n m p < lo
      · rw [ite_t c1]; exact k2 (Or.inl c1)
      rw [ite_f c1]
      by_cases c2 : tkV T n m p ≤ hi
      · rw [ite_t c2]; exact k0 (by omega) c2
      · rw [ite_f c2]; exact k2 (Or.inr (by omega))
    · simp (disch := omega) only [Og, fd0, fd1, fd2, fd3, fd4, fd5, fd6, fd7, fd8, fd9, fd10, fd11, fd12, fd13, fd14, fd15, fd16, fd17, fd18, fd19, fd20, fd21, fd22, fd23, fd24, fd25, fd26, fd27, fd28, fd29, fd30, fd31, fd32, fd33, fd34, fd35, fd36, fd37, fd38, fd39, fd40, fd41, fd42, fd43, fd44, fd45, fd46, fd47, fd48, fd49, fd50, fd51, fd52, a6, -Int.reduceToNat, -Int32.reduceToNatClampNeg, il0, il1, il2, il3, il4, il5, il6, il7, il8, il9, il10, il11, il12, il13, il14, il15, il16, il17, il18, il19, il20, il21, il22, il23, il24, il25, il26, il27, il28, il29, il30, il31, il32, il35, il36, il38, il40, il42, il43, il44, il45, il46, il47, il48, il49, il50, il51, il52, il57, il59, il60, il63, il64, il75, il80, il95, il96, il97, il98, il99, il100, il120, il122, il123, il127, il128, il135, il167, il175, il225, il249, il250, il255, il256, il360, il370, il384, il600, il700, il740, il900, il940, il1024, il1600, il4800, il64000, il125000, il262143, il1000000000, iI_toInt, iI_add, iI_sub, iI_mul, iI_neg, iI_lt, iI_le, iI_eq, iI_n, iI_in, iI_div, iI_mod, iI_shm, iI_and1, iI_and7, iI_and63, iI_shr3, iI_shr6, rd_I, ob, Option.some.injEq, exists_eq_left', exists_eq_left, true_and, and_true, fqI, fqJ, eq_self, true_or, or_true, bP_0, bP_0i, npP, bP_1i, bP_b, not_true_eq_false, not_false_eq_true, false_implies, true_implies, implies_true, Classical.not_not, and_self, cP, cP', ite_n, ite_f]
      refine c_fail0 Rg (by omega) fun g2 t2 R2 => c_num41 R2 ?_
      rw [ite_f (by omega)]
      exact K g2 1 _ _ _ lo (t.trans t2) R2 (Or.inr (Or.inl ⟨rfl, ck, rfl, rfl, rfl⟩))
  · refine c_advF R hf ?_
    have b6 := rd_bd h tx 6
    have b7 := rd_bd h tx 7
    have k1 : wb_X7_readNumber_41 ci h tx (iI lo) post := by
      refine c_num41 R ?_
      rw [ite_f hf]
      exact K h f fa p a lo (tfF.refl _ _) R (Or.inl ⟨hf, rfl, rfl, rfl⟩)
    have k2 : wb_X7_readNumber_36 ci h tx (iI lo) post := by
      unfold wb_X7_readNumber_36
      exact ⟨O, c_failF R hf k1⟩
    simp (disch := omega) only [O, fd0, fd1, fd2, fd3, fd4, fd5, fd6, fd7, fd8, fd9, fd10, fd11, fd12, fd13, fd14, fd15, fd16, fd17, fd18, fd19, fd20, fd21, fd22, fd23, fd24, fd25, fd26, fd27, fd28, fd29, fd30, fd31, fd32, fd33, fd34, fd35, fd36, fd37, fd38, fd39, fd40, fd41, fd42, fd43, fd44, fd45, fd46, fd47, fd48, fd49, fd50, fd51, fd52, -Int.reduceToNat, -Int32.reduceToNatClampNeg, il0, il1, il2, il3, il4, il5, il6, il7, il8, il9, il10, il11, il12, il13, il14, il15, il16, il17, il18, il19, il20, il21, il22, il23, il24, il25, il26, il27, il28, il29, il30, il31, il32, il35, il36, il38, il40, il42, il43, il44, il45, il46, il47, il48, il49, il50, il51, il52, il57, il59, il60, il63, il64, il75, il80, il95, il96, il97, il98, il99, il100, il120, il122, il123, il127, il128, il135, il167, il175, il225, il249, il250, il255, il256, il360, il370, il384, il600, il700, il740, il900, il940, il1024, il1600, il4800, il64000, il125000, il262143, il1000000000, iI_toInt, iI_add, iI_sub, iI_mul, iI_neg, iI_lt, iI_le, iI_eq, iI_n, iI_in, iI_div, iI_mod, iI_shm, iI_and1, iI_and7, iI_and63, iI_shr3, iI_shr6, rd_I, ob, Option.some.injEq, exists_eq_left', exists_eq_left, true_and, and_true, fqI, fqJ, eq_self, true_or, or_true, bP_0, bP_0i, npP, bP_1i, bP_b, not_true_eq_false, not_false_eq_true, false_implies, true_implies, implies_true, Classical.not_not, and_self, cP, cP', ite_n]
    by_cases c0 : rd h tx 6 = 2
    · rw [ite_t c0]
      by_cases c1 : rd h tx 7 < lo
      · rw [ite_t c1]; exact k2
      rw [ite_f c1]
      by_cases c2 : rd h tx 7 ≤ hi
      · rw [ite_t c2]; exact k1
      · rw [ite_f c2]; exact k2
    · rw [ite_f c0]
      exact c_failF R hf k1
/-- NAME -/
def NaR (T : Int → Int) (n m f fa p f' fa' p' a' v : Int) : Prop := (f ≠ 0 ∧ f' = f ∧ fa' = fa) ∨ (f = 0 ∧ ¬ (tkK T n m p = 1 ∧ kwI (tkW T n m p) = -1) ∧ f' = 1 ∧ fa' = tkA T n m p) ∨ (f = 0 ∧ tkK T n m p = 1 ∧ kwI (tkW T n m p) = -1 ∧ f' = 0 ∧ fa' = fa ∧ p' = tkE T n m p ∧ a' = tkA T n m p ∧ v = w5 (tkW T n m p))
theorem c_readName (R : RD T n m h tx ci tb f fa p a) (K : ∀ h' f' fa' p' a' v, tfF h h' tx → RD T n m h' tx ci tb f' fa' p' a' → NaR T n m f fa p f' fa' p' a' v → (-2147483648 ≤ v ∧ v < 2147483648) → post h' (iI v)) : wp_X7_readName ci h tx post := by
  have O := R.o
  have k24 : ∀ {g : AH} {f fa p a : Int}, RD T n m g tx ci tb f fa p a → post g (iI (rd g tx 7)) → wb_X7_readName_24 ci g tx post := fun {g} {_ _ _ _} R2 u => by
    have O2 := R2.o
    unfold wb_X7_readName_24
    simp (disch := omega) only [O2, fd0, fd1, fd2, fd3, fd4, fd5, fd6, fd7, fd8, fd9, fd10, fd11, fd12, fd13, fd14, fd15, fd16, fd17, fd18, fd19, fd20, fd21, fd22, fd23, fd24, fd25, fd26, fd27, fd28, fd29, fd30, fd31, fd32, fd33, fd34, fd35, fd36, fd37, fd38, fd39, fd40, fd41, fd42, fd43, fd44, fd45, fd46, fd47, fd48, fd49, fd50, fd51, fd52, -Int.reduceToNat, -Int32.reduceToNatClampNeg, il0, il1, il2, il3, il4, il5, il6, il7, il8, il9, il10, il11, il12, il13, il14, il15, il16, il17, il18, il19, il20, il21, il22, il23, il24, il25, il26, il27, il28, il29, il30, il31, il32, il35, il36, il38, il40, il42, il43, il44, il45, il46, il47, il48, il49, il50, il51, il52, il57, il59, il60, il63, il64, il75, il80, il95, il96, il97, il98, il99, il100, il120, il122, il123, il127, il128, il135, il167, il175, il225, il249, il250, il255, il256, il360, il370, il384, il600, il700, il740, il900, il940, il1024, il1600, il4800, il64000, il125000, il262143, il1000000000, iI_toInt, iI_add, iI_sub, iI_mul, iI_neg, iI_lt, iI_le, iI_eq, iI_n, iI_in, iI_div, iI_mod, iI_shm, iI_and1, iI_and7, iI_and63, iI_shr3, iI_shr6, rd_I, ob, Option.some.injEq, exists_eq_left', exists_eq_left, true_and, and_true, fqI, fqJ, eq_self, true_or, or_true, bP_0, bP_0i, npP, bP_1i, bP_b, not_true_eq_false, not_false_eq_true, false_implies, true_implies, implies_true, Classical.not_not, and_self]
    exact u
  unfold wp_X7_readName
  refine ⟨O, ?_⟩
  by_cases hf : f = 0
  · subst hf
    refine c_adv0 R fun g t Rg A => ?_
    obtain ⟨t0, a4, a5, a6, a7, a8, a9⟩ := A
    have Og := Rg.o
    have bk := tk_bd (T := T) R.hp R.hm.1
    have kb := kwI_bd (l := tkW T n m p)
    have k19 : ¬ (tkK T n m p = 1 ∧ kwI (tkW T n m p) = -1) → wb_X7_readName_19 ci g tx post := fun u => by
      unfold wb_X7_readName_19
      refine ⟨Og, ?_⟩
      rw [show (1 : Int32) = iI 1 from rfl]
      exact c_fail0 Rg (by omega) fun g2 t2 R2 => k24 R2 (K g2 1 _ _ _ _ (t.trans t2) R2 (Or.inr (Or.inl ⟨rfl, u, rfl, rfl⟩)) (rd_bd _ _ _))
    by_cases ck : tkK T n m p = 1
    · obtain ⟨v7, v9⟩ := a7 ck
      simp (disch := omega) only [Og, fd0, fd1, fd2, fd3, fd4, fd5, fd6, fd7, fd8, fd9, fd10, fd11, fd12, fd13, fd14, fd15, fd16, fd17, fd18, fd19, fd20, fd21, fd22, fd23, fd24, fd25, fd26, fd27, fd28, fd29, fd30, fd31, fd32, fd33, fd34, fd35, fd36, fd37, fd38, fd39, fd40, fd41, fd42, fd43, fd44, fd45, fd46, fd47, fd48, fd49, fd50, fd51, fd52, a6, ck, v9, -Int.reduceToNat, -Int32.reduceToNatClampNeg, il0, il1, il2, il3, il4, il5, il6, il7, il8, il9, il10, il11, il12, il13, il14, il15, il16, il17, il18, il19, il20, il21, il22, il23, il24, il25, il26, il27, il28, il29, il30, il31, il32, il35, il36, il38, il40, il42, il43, il44, il45, il46, il47, il48, il49, il50, il51, il52, il57, il59, il60, il63, il64, il75, il80, il95, il96, il97, il98, il99, il100, il120, il122, il123, il127, il128, il135, il167, il175, il225, il249, il250, il255, il256, il360, il370, il384, il600, il700, il740, il900, il940, il1024, il1600, il4800, il64000, il125000, il262143, il1000000000, iI_toInt, iI_add, iI_sub, iI_mul, iI_neg, iI_lt, iI_le, iI_eq, iI_n, iI_in, iI_div, iI_mod, iI_shm, iI_and1, iI_and7, iI_and63, iI_shr3, iI_shr6, rd_I, ob, Option.some.injEq, exists_eq_left', exists_eq_left, true_and, and_true, fqI, fqJ, eq_self, true_or, or_true, bP_0, bP_0i, npP, bP_1i, bP_b, not_true_eq_false, not_false_eq_true, false_implies, true_implies, implies_true, Classical.not_not, and_self, cP, cP', ite_n, ite_t]
      by_cases c1 : kwI (tkW T n m p) < 0
      · rw [ite_t c1]
        exact k24 Rg (K g 0 _ _ _ _ t Rg (Or.inr (Or.inr ⟨rfl, ck, by omega, rfl, rfl, rfl, rfl, v7⟩)) (rd_bd _ _ _))
      · rw [ite_f c1]; exact k19 (fun u => by omega)
    · simp (disch := omega) only [Og, fd0, fd1, fd2, fd3, fd4, fd5, fd6, fd7, fd8, fd9, fd10, fd11, fd12, fd13, fd14, fd15, fd16, fd17, fd18, fd19, fd20, fd21, fd22, fd23, fd24, fd25, fd26, fd27, fd28, fd29, fd30, fd31, fd32, fd33, fd34, fd35, fd36, fd37, fd38, fd39, fd40, fd41, fd42, fd43, fd44, fd45, fd46, fd47, fd48, fd49, fd50, fd51, fd52, a6, -Int.reduceToNat, -Int32.reduceToNatClampNeg, il0, il1, il2, il3, il4, il5, il6, il7, il8, il9, il10, il11, il12, il13, il14, il15, il16, il17, il18, il19, il20, il21, il22, il23, il24, il25, il26, il27, il28, il29, il30, il31, il32, il35, il36, il38, il40, il42, il43, il44, il45, il46, il47, il48, il49, il50, il51, il52, il57, il59, il60, il63, il64, il75, il80, il95, il96, il97, il98, il99, il100, il120, il122, il123, il127, il128, il135, il167, il175, il225, il249, il250, il255, il256, il360, il370, il384, il600, il700, il740, il900, il940, il1024, il1600, il4800, il64000, il125000, il262143, il1000000000, iI_toInt, iI_add, iI_sub, iI_mul, iI_neg, iI_lt, iI_le, iI_eq, iI_n, iI_in, iI_div, iI_mod, iI_shm, iI_and1, iI_and7, iI_and63, iI_shr3, iI_shr6, rd_I, ob, Option.some.injEq, exists_eq_left', exists_eq_left, true_and, and_true, fqI, fqJ, eq_self, true_or, or_true, bP_0, bP_0i, npP, bP_1i, bP_b, not_true_eq_false, not_false_eq_true, false_implies, true_implies, implies_true, Classical.not_not, and_self, cP, cP', ite_n, ite_f]
      exact k19 (fun u => ck u.1)
  · refine c_advF R hf ?_
    have b6 := rd_bd h tx 6
    have b9 := rd_bd h tx 9
    have k1 : wb_X7_readName_24 ci h tx post := k24 R (K h f fa p a _ (tfF.refl _ _) R (Or.inl ⟨hf, rfl, rfl⟩) (rd_bd _ _ _))
    have k2 : wb_X7_readName_19 ci h tx post := by
      unfold wb_X7_readName_19
      exact ⟨O, c_failF R hf k1⟩
    simp (disch := omega) only [O, fd0, fd1, fd2, fd3, fd4, fd5, fd6, fd7, fd8, fd9, fd10, fd11, fd12, fd13, fd14, fd15, fd16, fd17, fd18, fd19, fd20, fd21, fd22, fd23, fd24, fd25, fd26, fd27, fd28, fd29, fd30, fd31, fd32, fd33, fd34, fd35, fd36, fd37, fd38, fd39, fd40, fd41, fd42, fd43, fd44, fd45, fd46, fd47, fd48, fd49, fd50, fd51, fd52, -Int.reduceToNat, -Int32.reduceToNatClampNeg, il0, il1, il2, il3, il4, il5, il6, il7, il8, il9, il10, il11, il12, il13, il14, il15, il16, il17, il18, il19, il20, il21, il22, il23, il24, il25, il26, il27, il28, il29, il30, il31, il32, il35, il36, il38, il40, il42, il43, il44, il45, il46, il47, il48, il49, il50, il51, il52, il57, il59, il60, il63, il64, il75, il80, il95, il96, il97, il98, il99, il100, il120, il122, il123, il127, il128, il135, il167, il175, il225, il249, il250, il255, il256, il360, il370, il384, il600, il700, il740, il900, il940, il1024, il1600, il4800, il64000, il125000, il262143, il1000000000, iI_toInt, iI_add, iI_sub, iI_mul, iI_neg, iI_lt, iI_le, iI_eq, iI_n, iI_in, iI_div, iI_mod, iI_shm, iI_and1, iI_and7, iI_and63, iI_shr3, iI_shr6, rd_I, ob, Option.some.injEq, exists_eq_left', exists_eq_left, true_and, and_true, fqI, fqJ, eq_self, true_or, or_true, bP_0, bP_0i, npP, bP_1i, bP_b, not_true_eq_false, not_false_eq_true, false_implies, true_implies, implies_true, Classical.not_not, and_self, cP, cP', ite_n]
    by_cases c0 : rd h tx 6 = 1
    · rw [ite_t c0]
      by_cases c1 : rd h tx 9 < 0
      · rw [ite_t c1]; exact k1
      · rw [ite_f c1]; exact k2
    · rw [ite_f c0]; exact k2
/-- STOP -/
def StR (T : Int → Int) (n m f fa p f' fa' p' : Int) : Prop := (f ≠ 0 ∧ f' = f ∧ fa' = fa) ∨ (f = 0 ∧ tkK T n m p ≠ 3 ∧ f' = 1 ∧ fa' = tkA T n m p) ∨ (f = 0 ∧ tkK T n m p = 3 ∧ f' = 0 ∧ fa' = fa ∧ p' = tkE T n m p)
theorem c_readStop (R : RD T n m h tx ci tb f fa p a) (K : ∀ h' f' fa' p' a', tfF h h' tx → RD T n m h' tx ci tb f' fa' p' a' → StR T n m f fa p f' fa' p' → postV h') : wp_X7_readStop ci h tx postV := by
  have O := R.o
  unfold wp_X7_readStop
  refine ⟨O, ?_⟩
  by_cases hf : f = 0
  · subst hf
    refine c_adv0 R fun g t Rg A => ?_
    obtain ⟨t0, a4, a5, a6, a7, a8, a9⟩ := A
    have Og := Rg.o
    have bk := tk_bd (T := T) R.hp R.hm.1
    simp (disch := omega) only [Og, fd0, fd1, fd2, fd3, fd4, fd5, fd6, fd7, fd8, fd9, fd10, fd11, fd12, fd13, fd14, fd15, fd16, fd17, fd18, fd19, fd20, fd21, fd22, fd23, fd24, fd25, fd26, fd27, fd28, fd29, fd30, fd31, fd32, fd33, fd34, fd35, fd36, fd37, fd38, fd39, fd40, fd41, fd42, fd43, fd44, fd45, fd46, fd47, fd48, fd49, fd50, fd51, fd52, a6, -Int.reduceToNat, -Int32.reduceToNatClampNeg, il0, il1, il2, il3, il4, il5, il6, il7, il8, il9, il10, il11, il12, il13, il14, il15, il16, il17, il18, il19, il20, il21, il22, il23, il24, il25, il26, il27, il28, il29, il30, il31, il32, il35, il36, il38, il40, il42, il43, il44, il45, il46, il47, il48, il49, il50, il51, il52, il57, il59, il60, il63, il64, il75, il80, il95, il96, il97, il98, il99, il100, il120, il122, il123, il127, il128, il135, il167, il175, il225, il249, il250, il255, il256, il360, il370, il384, il600, il700, il740, il900, il940, il1024, il1600, il4800, il64000, il125000, il262143, il1000000000, iI_toInt, iI_add, iI_sub, iI_mul, iI_neg, iI_lt, iI_le, iI_eq, iI_n, iI_in, iI_div, iI_mod, iI_shm, iI_and1, iI_and7, iI_and63, iI_shr3, iI_shr6, rd_I, ob, Option.some.injEq, exists_eq_left', exists_eq_left, true_and, and_true, fqI, fqJ, eq_self, true_or, or_true, bP_0, bP_0i, npP, bP_1i, bP_b, not_true_eq_false, not_false_eq_true, false_implies, true_implies, implies_true, Classical.not_not, and_self, cP, cP', ite_n]
    by_cases ck : tkK T n m p = 3
    · rw [ite_t ck]
      exact K g 0 _ _ _ t Rg (Or.inr (Or.inr ⟨rfl, ck, rfl, rfl, rfl⟩))
    · rw [ite_f ck]
      exact c_fail0 Rg (by omega) fun g2 t2 R2 => K g2 1 _ _ _ (t.trans t2) R2 (Or.inr (Or.inl ⟨rfl, ck, rfl, rfl⟩))
  · refine c_advF R hf ?_
    have b6 := rd_bd h tx 6
    have k1 : postV h := K h f fa p a (tfF.refl _ _) R (Or.inl ⟨hf, rfl, rfl⟩)
    simp (disch := omega) only [O, fd0, fd1, fd2, fd3, fd4, fd5, fd6, fd7, fd8, fd9, fd10, fd11, fd12, fd13, fd14, fd15, fd16, fd17, fd18, fd19, fd20, fd21, fd22, fd23, fd24, fd25, fd26, fd27, fd28, fd29, fd30, fd31, fd32, fd33, fd34, fd35, fd36, fd37, fd38, fd39, fd40, fd41, fd42, fd43, fd44, fd45, fd46, fd47, fd48, fd49, fd50, fd51, fd52, -Int.reduceToNat, -Int32.reduceToNatClampNeg, il0, il1, il2, il3, il4, il5, il6, il7, il8, il9, il10, il11, il12, il13, il14, il15, il16, il17, il18, il19, il20, il21, il22, il23, il24, il25, il26, il27, il28, il29, il30, il31, il32, il35, il36, il38, il40, il42, il43, il44, il45, il46, il47, il48, il49, il50, il51, il52, il57, il59, il60, il63, il64, il75, il80, il95, il96, il97, il98, il99, il100, il120, il122, il123, il127, il128, il135, il167, il175, il225, il249, il250, il255, il256, il360, il370, il384, il600, il700, il740, il900, il940, il1024, il1600, il4800, il64000, il125000, il262143, il1000000000, iI_toInt, iI_add, iI_sub, iI_mul, iI_neg, iI_lt, iI_le, iI_eq, iI_n, iI_in, iI_div, iI_mod, iI_shm, iI_and1, iI_and7, iI_and63, iI_shr3, iI_shr6, rd_I, ob, Option.some.injEq, exists_eq_left', exists_eq_left, true_and, and_true, fqI, fqJ, eq_self, true_or, or_true, bP_0, bP_0i, npP, bP_1i, bP_b, not_true_eq_false, not_false_eq_true, false_implies, true_implies, implies_true, Classical.not_not, and_self, cP, cP', ite_n]
    by_cases c0 : rd h tx 6 = 3
    · rw [ite_t c0]; exact k1
    · rw [ite_f c0]; exact c_failF R hf k1
/-- a SIDE -/
def SiR (T : Int → Int) (n m f fa p f' fa' p' a' v : Int) : Prop := (f ≠ 0 ∧ f' = f ∧ fa' = fa ∧ v = 0) ∨ (f = 0 ∧ ¬ (tkK T n m p = 1 ∧ 11 ≤ kwI (tkW T n m p) ∧ kwI (tkW T n m p) ≤ 14) ∧ f' = 1 ∧ fa' = tkA T n m p ∧ v = 0) ∨ (f = 0 ∧ tkK T n m p = 1 ∧ 11 ≤ kwI (tkW T n m p) ∧ kwI (tkW T n m p) ≤ 14 ∧ f' = 0 ∧ fa' = fa ∧ p' = tkE T n m p ∧ a' = tkA T n m p ∧ v = kwI (tkW T n m p) - 11)
theorem c_readSide (R : RD T n m h tx ci tb f fa p a) (K : ∀ h' f' fa' p' a' v, tfF h h' tx → RD T n m h' tx ci tb f' fa' p' a' → SiR T n m f fa p f' fa' p' a' v → post h' (iI v)) : wp_X7_readSide ci h tx post := by
  have O := R.o
  have k27 : ∀ {g : AH} {f fa p a : Int}, RD T n m g tx ci tb f fa p a → f ≠ 0 → post g (iI 0) → wb_X7_readSide_27 ci g tx post := fun {g} {_ _ _ _} R2 hf u => by
    have O2 := R2.o
    have b := rd_bd g tx 10
    have sf := R2.sf
    unfold wb_X7_readSide_27
    simp (disch := omega) only [O2, fd0, fd1, fd2, fd3, fd4, fd5, fd6, fd7, fd8, fd9, fd10, fd11, fd12, fd13, fd14, fd15, fd16, fd17, fd18, fd19, fd20, fd21, fd22, fd23, fd24, fd25, fd26, fd27, fd28, fd29, fd30, fd31, fd32, fd33, fd34, fd35, fd36, fd37, fd38, fd39, fd40, fd41, fd42, fd43, fd44, fd45, fd46, fd47, fd48, fd49, fd50, fd51, fd52, -Int.reduceToNat, -Int32.reduceToNatClampNeg, il0, il1, il2, il3, il4, il5, il6, il7, il8, il9, il10, il11, il12, il13, il14, il15, il16, il17, il18, il19, il20, il21, il22, il23, il24, il25, il26, il27, il28, il29, il30, il31, il32, il35, il36, il38, il40, il42, il43, il44, il45, il46, il47, il48, il49, il50, il51, il52, il57, il59, il60, il63, il64, il75, il80, il95, il96, il97, il98, il99, il100, il120, il122, il123, il127, il128, il135, il167, il175, il225, il249, il250, il255, il256, il360, il370, il384, il600, il700, il740, il900, il940, il1024, il1600, il4800, il64000, il125000, il262143, il1000000000, iI_toInt, iI_add, iI_sub, iI_mul, iI_neg, iI_lt, iI_le, iI_eq, iI_n, iI_in, iI_div, iI_mod, iI_shm, iI_and1, iI_and7, iI_and63, iI_shr3, iI_shr6, rd_I, ob, Option.some.injEq, exists_eq_left', exists_eq_left, true_and, and_true, fqI, fqJ, eq_self, true_or, or_true, bP_0, bP_0i, npP, bP_1i, bP_b, not_true_eq_false, not_false_eq_true, false_implies, true_implies, implies_true, Classical.not_not, and_self, cP, cP', ite_n, ite_f]
    exact u
  unfold wp_X7_readSide
  refine ⟨O, ?_⟩
  by_cases hf : f = 0
  · subst hf
    refine c_adv0 R fun g t Rg A => ?_
    obtain ⟨t0, a4, a5, a6, a7, a8, a9⟩ := A
    have Og := Rg.o
    have bk := tk_bd (T := T) R.hp R.hm.1
    have kb := kwI_bd (l := tkW T n m p)
    have k22 : ¬ (tkK T n m p = 1 ∧ 11 ≤ kwI (tkW T n m p) ∧ kwI (tkW T n m p) ≤ 14) → wb_X7_readSide_22 ci g tx post := fun u => by
      unfold wb_X7_readSide_22
      refine ⟨Og, ?_⟩
      rw [show (1 : Int32) = iI 1 from rfl]
      exact c_fail0 Rg (by omega) fun g2 t2 R2 => k27 R2 (by omega) (K g2 1 _ _ _ _ (t.trans t2) R2 (Or.inr (Or.inl ⟨rfl, u, rfl, rfl, rfl⟩)))
    by_cases ck : tkK T n m p = 1
    · obtain ⟨v7, v9⟩ := a7 ck
      have sf := Rg.sf
      simp (disch := omega) only [Og, fd0, fd1, fd2, fd3, fd4, fd5, fd6, fd7, fd8, fd9, fd10, fd11, fd12, fd13, fd14, fd15, fd16, fd17, fd18, fd19, fd20, fd21, fd22, fd23, fd24, fd25, fd26, fd27, fd28, fd29, fd30, fd31, fd32, fd33, fd34, fd35, fd36, fd37, fd38, fd39, fd40, fd41, fd42, fd43, fd44, fd45, fd46, fd47, fd48, fd49, fd50, fd51, fd52, v9, -Int.reduceToNat, -Int32.reduceToNatClampNeg, il0, il1, il2, il3, il4, il5, il6, il7, il8, il9, il10, il11, il12, il13, il14, il15, il16, il17, il18, il19, il20, il21, il22, il23, il24, il25, il26, il27, il28, il29, il30, il31, il32, il35, il36, il38, il40, il42, il43, il44, il45, il46, il47, il48, il49, il50, il51, il52, il57, il59, il60, il63, il64, il75, il80, il95, il96, il97, il98, il99, il100, il120, il122, il123, il127, il128, il135, il167, il175, il225, il249, il250, il255, il256, il360, il370, il384, il600, il700, il740, il900, il940, il1024, il1600, il4800, il64000, il125000, il262143, il1000000000, iI_toInt, iI_add, iI_sub, iI_mul, iI_neg, iI_lt, iI_le, iI_eq, iI_n, iI_in, iI_div, iI_mod, iI_shm, iI_and1, iI_and7, iI_and63, iI_shr3, iI_shr6, rd_I, ob, Option.some.injEq, exists_eq_left', exists_eq_left, true_and, and_true, fqI, fqJ, eq_self, true_or, or_true, bP_0, bP_0i, npP, bP_1i, bP_b, not_true_eq_false, not_false_eq_true, false_implies, true_implies, implies_true, Classical.not_not, and_self, cP, cP', ite_n]
      by_cases c1 : kwI (tkW T n m p) < 11
      · rw [ite_t c1]; exact k22 (fun u => by omega)
      rw [ite_f c1]
      by_cases c2 : kwI (tkW T n m p) ≤ 14
      · rw [ite_t c2]
        unfold wb_X7_readSide_27
        simp (disch := omega) only [Og, fd0, fd1, fd2, fd3, fd4, fd5, fd6, fd7, fd8, fd9, fd10, fd11, fd12, fd13, fd14, fd15, fd16, fd17, fd18, fd19, fd20, fd21, fd22, fd23, fd24, fd25, fd26, fd27, fd28, fd29, fd30, fd31, fd32, fd33, fd34, fd35, fd36, fd37, fd38, fd39, fd40, fd41, fd42, fd43, fd44, fd45, fd46, fd47, fd48, fd49, fd50, fd51, fd52, v9, sf, -Int.reduceToNat, -Int32.reduceToNatClampNeg, il0, il1, il2, il3, il4, il5, il6, il7, il8, il9, il10, il11, il12, il13, il14, il15, il16, il17, il18, il19, il20, il21, il22, il23, il24, il25, il26, il27, il28, il29, il30, il31, il32, il35, il36, il38, il40, il42, il43, il44, il45, il46, il47, il48, il49, il50, il51, il52, il57, il59, il60, il63, il64, il75, il80, il95, il96, il97, il98, il99, il100, il120, il122, il123, il127, il128, il135, il167, il175, il225, il249, il250, il255, il256, il360, il370, il384, il600, il700, il740, il900, il940, il1024, il1600, il4800, il64000, il125000, il262143, il1000000000, iI_toInt, iI_add, iI_sub, iI_mul, iI_neg, iI_lt, iI_le, iI_eq, iI_n, iI_in, iI_div, iI_mod, iI_shm, iI_and1, iI_and7, iI_and63, iI_shr3, iI_shr6, rd_I, ob, Option.some.injEq, exists_eq_left', exists_eq_left, true_and, and_true, fqI, fqJ, eq_self, true_or, or_true, bP_0, bP_0i, npP, bP_1i, bP_b, not_true_eq_false, not_false_eq_true, false_implies, true_implies, implies_true, Classical.not_not, and_self, cP, cP', ite_n, ite_t]
        exact K g 0 _ _ _ _ t Rg (Or.inr (Or.inr ⟨rfl, ck, by omega, c2, rfl, rfl, rfl, rfl, rfl⟩))
      · rw [ite_f c2]; exact k22 (fun u => by omega)
    · simp (disch := omega) only [Og, fd0, fd1, fd2, fd3, fd4, fd5, fd6, fd7, fd8, fd9, fd10, fd11, fd12, fd13, fd14, fd15, fd16, fd17, fd18, fd19, fd20, fd21, fd22, fd23, fd24, fd25, fd26, fd27, fd28, fd29, fd30, fd31, fd32, fd33, fd34, fd35, fd36, fd37, fd38, fd39, fd40, fd41, fd42, fd43, fd44, fd45, fd46, fd47, fd48, fd49, fd50, fd51, fd52, a9 ck, -Int.reduceToNat, -Int32.reduceToNatClampNeg, il0, il1, il2, il3, il4, il5, il6, il7, il8, il9, il10, il11, il12, il13, il14, il15, il16, il17, il18, il19, il20, il21, il22, il23, il24, il25, il26, il27, il28, il29, il30, il31, il32, il35, il36, il38, il40, il42, il43, il44, il45, il46, il47, il48, il49, il50, il51, il52, il57, il59, il60, il63, il64, il75, il80, il95, il96, il97, il98, il99, il100, il120, il122, il123, il127, il128, il135, il167, il175, il225, il249, il250, il255, il256, il360, il370, il384, il600, il700, il740, il900, il940, il1024, il1600, il4800, il64000, il125000, il262143, il1000000000, iI_toInt, iI_add, iI_sub, iI_mul, iI_neg, iI_lt, iI_le, iI_eq, iI_n, iI_in, iI_div, iI_mod, iI_shm, iI_and1, iI_and7, iI_and63, iI_shr3, iI_shr6, rd_I, ob, Option.some.injEq, exists_eq_left', exists_eq_left, true_and, and_true, fqI, fqJ, eq_self, true_or, or_true, bP_0, bP_0i, npP, bP_1i, bP_b, not_true_eq_false, not_false_eq_true, false_implies, true_implies, implies_true, Classical.not_not, and_self, cP, cP', ite_n, ite_t]
      exact k22 (fun u => ck u.1)
  · refine c_advF R hf ?_
    have b9 := rd_bd h tx 9
    have k1 : wb_X7_readSide_27 ci h tx post := k27 R hf (K h f fa p a _ (tfF.refl _ _) R (Or.inl ⟨hf, rfl, rfl, rfl⟩))
    have k2 : wb_X7_readSide_22 ci h tx post := by
      unfold wb_X7_readSide_22
      exact ⟨O, c_failF R hf k1⟩
    simp (disch := omega) only [O, fd0, fd1, fd2, fd3, fd4, fd5, fd6, fd7, fd8, fd9, fd10, fd11, fd12, fd13, fd14, fd15, fd16, fd17, fd18, fd19, fd20, fd21, fd22, fd23, fd24, fd25, fd26, fd27, fd28, fd29, fd30, fd31, fd32, fd33, fd34, fd35, fd36, fd37, fd38, fd39, fd40, fd41, fd42, fd43, fd44, fd45, fd46, fd47, fd48, fd49, fd50, fd51, fd52, -Int.reduceToNat, -Int32.reduceToNatClampNeg, il0, il1, il2, il3, il4, il5, il6, il7, il8, il9, il10, il11, il12, il13, il14, il15, il16, il17, il18, il19, il20, il21, il22, il23, il24, il25, il26, il27, il28, il29, il30, il31, il32, il35, il36, il38, il40, il42, il43, il44, il45, il46, il47, il48, il49, il50, il51, il52, il57, il59, il60, il63, il64, il75, il80, il95, il96, il97, il98, il99, il100, il120, il122, il123, il127, il128, il135, il167, il175, il225, il249, il250, il255, il256, il360, il370, il384, il600, il700, il740, il900, il940, il1024, il1600, il4800, il64000, il125000, il262143, il1000000000, iI_toInt, iI_add, iI_sub, iI_mul, iI_neg, iI_lt, iI_le, iI_eq, iI_n, iI_in, iI_div, iI_mod, iI_shm, iI_and1, iI_and7, iI_and63, iI_shr3, iI_shr6, rd_I, ob, Option.some.injEq, exists_eq_left', exists_eq_left, true_and, and_true, fqI, fqJ, eq_self, true_or, or_true, bP_0, bP_0i, npP, bP_1i, bP_b, not_true_eq_false, not_false_eq_true, false_implies, true_implies, implies_true, Classical.not_not, and_self, cP, cP', ite_n]
    by_cases c0 : rd h tx 9 < 11
    · rw [ite_t c0]; exact k2
    rw [ite_f c0]
    by_cases c1 : rd h tx 9 ≤ 14
    · rw [ite_t c1]; exact k1
    · rw [ite_f c1]; exact k2
end PRM
