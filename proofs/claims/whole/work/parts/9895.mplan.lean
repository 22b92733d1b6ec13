/-! a PLAN's text in the model -/
def mA (h h' : AH) : Prop := Fr [92, 96] [92] [] h h' ∧ ∀ j, j ∉ [(4 : Int), 11, 12, 13, 14, 15, 16, 18] → rd h' 92 j = rd h 92 j
section MPL
variable {h h1 h2 h' h0 g : AH} {postV : AH → Prop} {post : AH → Int32 → Prop} {a b c d r x y n m p f fa q e k i lo hi v w rc how who wh : Int} {T s A : Int → Int} {l : List Int} {N : Int → List Int} {R : RT}
theorem mA.refl (h : AH) : mA h h := ⟨(Fr.refl h).mono (by simp) (by simp) (by simp), fun _ _ => rfl⟩
theorem mA.trans (u : mA h h1) (v : mA h1 h2) : mA h h2 := ⟨u.1.trans v.1, fun j hj => (v.2 j hj).trans (u.2 j hj)⟩
theorem pF.ma (u : pF h h') : mA h h' := ⟨u.1.mono (by simp) (by simp) (by simp), u.2⟩
theorem mA.r96 (F : Fr [96] [] [] h h') : mA h h' := ⟨F.mono (by simp) (by simp) (by simp), fun j _ => by rw [F.row (by simp)]⟩
/-- an ACT being read -/
def PX (T : Int → Int) (n m : Int) (h0 h : AH) (p : Int) (N : Int → List Int) (rc c : Int) : Prop := (MTk T n m h p) ∧ (RSV h) ∧ (mA h0 h) ∧ (rd h 94 2 = rc) ∧ (∀ r, 0 ≤ r → r < rc → aJ h 97 (0 + r).toNat = Int64.ofInt (w8 (N r)) ∧ Ltr (N r) ∧ (N r).length ≤ 6) ∧ (rd h 92 27 = c) ∧ (rd h 92 15 = 0)
theorem PX.X {T : Int → Int} {n m : Int} {h0 h : AH} {p : Int} {N : Int → List Int} {rc c : Int} (R : PX T n m h0 h p N rc c) : MTk T n m h p := R.1
theorem PX.rw {T : Int → Int} {n m : Int} {h0 h : AH} {p : Int} {N : Int → List Int} {rc c : Int} (R : PX T n m h0 h p N rc c) : RSV h := R.2.1
theorem PX.FF {T : Int → Int} {n m : Int} {h0 h : AH} {p : Int} {N : Int → List Int} {rc c : Int} (R : PX T n m h0 h p N rc c) : mA h0 h := R.2.2.1
theorem PX.r2 {T : Int → Int} {n m : Int} {h0 h : AH} {p : Int} {N : Int → List Int} {rc c : Int} (R : PX T n m h0 h p N rc c) : rd h 94 2 = rc := R.2.2.2.1
theorem PX.nm {T : Int → Int} {n m : Int} {h0 h : AH} {p : Int} {N : Int → List Int} {rc c : Int} (R : PX T n m h0 h p N rc c) : ∀ r, 0 ≤ r → r < rc → aJ h 97 (0 + r).toNat = Int64.ofInt (w8 (N r)) ∧ Ltr (N r) ∧ (N r).length ≤ 6 := R.2.2.2.2.1
theorem PX.c27 {T : Int → Int} {n m : Int} {h0 h : AH} {p : Int} {N : Int → List Int} {rc c : Int} (R : PX T n m h0 h p N rc c) : rd h 92 27 = c := R.2.2.2.2.2.1
theorem PX.ft {T : Int → Int} {n m : Int} {h0 h : AH} {p : Int} {N : Int → List Int} {rc c : Int} (R : PX T n m h0 h p N rc c) : rd h 92 15 = 0 := R.2.2.2.2.2.2
theorem PX.ps (Q : PX T n m h0 h p N rc c) (u : pS h h') (X : MTk T n m h' q) : PX T n m h0 h' q N rc c := by
  obtain ⟨X0, rw0, F, r2, nm, c27, ft⟩ := Q
  exact ⟨X, fun i i0 i1 => by rw [u.1.2.2.2.2.2.1 98 (by simp)]; exact rw0 i i0 i1, F.trans u.pf.ma, by rw [u.1.row (by simp)]; exact r2, fun r r0 r1 => by rw [u.1.2.2.2.2.2.1 97 (by simp)]; exact nm r r0 r1, by rw [u.2 27 (by decide)]; exact c27, by rw [u.2 15 (by decide)]; exact ft⟩
theorem PX.st (Q : PX T n m h0 h p N rc c) (hi : 0 ≤ i ∧ i < 120) (hv : -2147483648 ≤ v ∧ v < 2147483648) (e : h' = hI h 96 i.toNat (iI v)) : PX T n m h0 h' p N rc c ∧ Fr [96] [] [] h h' ∧ rd h' 96 = updT (rd h 96) i v := by
  obtain ⟨X0, rw0, F0, r2, nm, c27, ft⟩ := Q
  obtain ⟨F, R⟩ := wI hi.1 hv.1 hv.2 e
  have F' : Gr [95, 96, 99, 100] [97] [] h h' := F.gr.mono (by simp) (by simp) (by simp) (by simp)
  exact ⟨⟨X0.to F', fun i i0 i1 => by rw [F.2.2.2.2.2.1 98 (by simp)]; exact rw0 i i0 i1, F0.trans (mA.r96 F), by rw [F.row (by simp)]; exact r2, fun r r0 r1 => by rw [F.2.2.2.2.2.1 97 (by simp)]; exact nm r r0 r1, by rw [F.row (by simp)]; exact c27, by rw [F.row (by simp)]; exact ft⟩, F, R⟩
theorem PX.bad (Q : PX T n m h0 h p N rc c) (hk : 1 ≤ k ∧ k ≤ 4) (e : R = bdR k (tkA T n m p)) (KF : ∀ h', mA h0 h' → Flt h' R → post h' (iI 0)) : wp_X12_bad h 92 (iI k) post :=
  m_bad Q.X.M Q.X.s12 hk fun h' u e1 e2 => KF h' (Q.FF.trans u.ma) ⟨by rw [e]; show k ≠ 0; omega, by rw [e, e1]; rfl, by rw [e, e2]; rfl⟩
theorem m_act147 (Q : PX T n m h0 h p N rc c) (hc : 0 ≤ c ∧ c < 60) (hh : -2147483648 ≤ how ∧ how < 2147483648) (KS : ∀ h', PX T n m h0 h' p N rc c → rd h' 96 = updT (rd h 96) (2 * c) how → post h' (iI 1)) : wb_X12_act_147 h 92 (iI how) post := by
  have M := Q.X.M
  have c27 := Q.c27
  unfold wb_X12_act_147
  simp (disch := omega) only [MSh.o0 M, MSh.p1 M, MSh.o1 M, MSh.l1 M, MSh.p6 M, MSh.o2 M, MSh.l2 M, MSh.p7 M, MSh.o3 M, MSh.l3 M, MSh.p8 M, MSh.o4 M, MSh.l4 M, MSh.p9 M, MSh.o5 M, MSh.l5 M, MSh.p10 M, MSh.o6 M, MSh.l6 M, MSh.p24 M, MSh.o7 M, MSh.l7 M, MSh.p25 M, MSh.o8 M, MSh.l8 M, MSh.p26 M, MSh.o9 M, MSh.l9 M, MSh.p32 M, MSh.o10 M, MSh.l10 M, MSh.p33 M, MSh.o11 M, MSh.l11 M, MSh.p35 M, MSh.o12 M, MSh.l12 M, MSh.p36 M, MSh.o13 M, MSh.l13 M, MSh.p37 M, MSh.o14 M, MSh.l14 M, MSh.p38 M, MSh.o15 M, MSh.l15 M, MSh.p39 M, MSh.o16 M, MSh.l16 M, MSh.p42 M, MSh.o17 M, MSh.l17 M, MSh.p43 M, MSh.o18 M, MSh.l18 M, MSh.p44 M, MSh.o19 M, MSh.l19 M, MSh.p45 M, MSh.o20 M, MSh.l20 M, MSh.p46 M, MSh.o21 M, MSh.l21 M, MSh.p47 M, MSh.o22 M, MSh.l22 M, MSh.p50 M, MSh.o23 M, MSh.l23 M, MSh.p51 M, MSh.o24 M, MSh.l24 M, MSh.p52 M, MSh.o25 M, MSh.l25 M, fd0, fd1, fd2, fd3, fd4, fd5, fd6, fd7, fd8, fd9, fd10, fd11, fd12, fd13, fd14, fd15, fd16, fd17, fd18, fd19, fd20, fd21, fd22, fd23, fd24, fd25, fd26, fd27, fd28, fd29, fd30, fd31, fd32, fd33, fd34, fd35, fd36, fd37, fd38, fd39, fd40, fd41, fd42, fd43, fd44, fd45, fd46, fd47, fd48, fd49, fd50, fd51, fd52, c27, -Int.reduceToNat, -Int32.reduceToNatClampNeg, il0, il1, il2, il3, il4, il5, il6, il7, il8, il9, il10, il11, il12, il13, il14, il15, il16, il17, il18, il19, il20, il21, il22, il23, il24, il25, il26, il27, il28, il29, il30, il31, il32, il35, il36, il38, il40, il42, il43, il44, il45, il46, il47, il48, il49, il50, il51, il52, il57, il59, il60, il63, il64, il75, il80, il95, il96, il97, il98, il99, il100, il120, il122, il123, il127, il128, il135, il167, il175, il225, il249, il250, il255, il256, il360, il370, il384, il600, il700, il740, il900, il940, il1024, il1600, il4800, il64000, il125000, il262143, il1000000000, iI_toInt, iI_add, iI_sub, iI_mul, iI_neg, iI_lt, iI_le, iI_eq, iI_n, iI_in, iI_div, iI_mod, iI_shm, iI_and1, iI_and7, iI_and63, iI_shr3, iI_shr6, rd_I, ob, Option.some.injEq, exists_eq_left', exists_eq_left, true_and, and_true, fqI, fqJ, eq_self, true_or, or_true, bP_0, bP_0i, npP, bP_1i, bP_b, not_true_eq_false, not_false_eq_true, false_implies, true_implies, implies_true, Classical.not_not, and_self]
  intro g1 w1
  obtain ⟨Q1, F1, R1⟩ := Q.st (i := 2 * c) (v := how) (by omega) hh w1
  exact KS g1 Q1 R1
theorem m_act107 (Q : PX T n m h0 h p N rc c) (hc : 0 ≤ c ∧ c < 60) (h18 : rd h 92 18 = who) (hwh : wh = 0 ∨ wh = 4 ∨ wh = 5) (e : R = iteP (wh = 0) (siS T n m p fun sd q' => okR (upA A c sd who) N (c + 1) q') (okR (upA A c wh who) N (c + 1) p)) (KF : ∀ h', mA h0 h' → Flt h' R → post h' (iI 0)) (KS : ∀ h' q how, PX T n m h0 h' q N rc c → rd h' 96 = updT (updT (rd h 96) (2 * c + 1) who) (2 * c) how → R = okR (upA A c how who) N (c + 1) q → post h' (iI 1)) : wb_X12_act_107 h 92 (iI wh) post := by
  have M := Q.X.M
  have c27 := Q.c27
  have wb := rd_bd h 92 18
  rw [h18] at wb
  unfold wb_X12_act_107
  simp (disch := omega) only [MSh.o0 M, MSh.p1 M, MSh.o1 M, MSh.l1 M, MSh.p6 M, MSh.o2 M, MSh.l2 M, MSh.p7 M, MSh.o3 M, MSh.l3 M, MSh.p8 M, MSh.o4 M, MSh.l4 M, MSh.p9 M, MSh.o5 M, MSh.l5 M, MSh.p10 M, MSh.o6 M, MSh.l6 M, MSh.p24 M, MSh.o7 M, MSh.l7 M, MSh.p25 M, MSh.o8 M, MSh.l8 M, MSh.p26 M, MSh.o9 M, MSh.l9 M, MSh.p32 M, MSh.o10 M, MSh.l10 M, MSh.p33 M, MSh.o11 M, MSh.l11 M, MSh.p35 M, MSh.o12 M, MSh.l12 M, MSh.p36 M, MSh.o13 M, MSh.l13 M, MSh.p37 M, MSh.o14 M, MSh.l14 M, MSh.p38 M, MSh.o15 M, MSh.l15 M, MSh.p39 M, MSh.o16 M, MSh.l16 M, MSh.p42 M, MSh.o17 M, MSh.l17 M, MSh.p43 M, MSh.o18 M, MSh.l18 M, MSh.p44 M, MSh.o19 M, MSh.l19 M, MSh.p45 M, MSh.o20 M, MSh.l20 M, MSh.p46 M, MSh.o21 M, MSh.l21 M, MSh.p47 M, MSh.o22 M, MSh.l22 M, MSh.p50 M, MSh.o23 M, MSh.l23 M, MSh.p51 M, MSh.o24 M, MSh.l24 M, MSh.p52 M, MSh.o25 M, MSh.l25 M, fd0, fd1, fd2, fd3, fd4, fd5, fd6, fd7, fd8, fd9, fd10, fd11, fd12, fd13, fd14, fd15, fd16, fd17, fd18, fd19, fd20, fd21, fd22, fd23, fd24, fd25, fd26, fd27, fd28, fd29, fd30, fd31, fd32, fd33, fd34, fd35, fd36, fd37, fd38, fd39, fd40, fd41, fd42, fd43, fd44, fd45, fd46, fd47, fd48, fd49, fd50, fd51, fd52, c27, h18, -Int.reduceToNat, -Int32.reduceToNatClampNeg, il0, il1, il2, il3, il4, il5, il6, il7, il8, il9, il10, il11, il12, il13, il14, il15, il16, il17, il18, il19, il20, il21, il22, il23, il24, il25, il26, il27, il28, il29, il30, il31, il32, il35, il36, il38, il40, il42, il43, il44, il45, il46, il47, il48, il49, il50, il51, il52, il57, il59, il60, il63, il64, il75, il80, il95, il96, il97, il98, il99, il100, il120, il122, il123, il127, il128, il135, il167, il175, il225, il249, il250, il255, il256, il360, il370, il384, il600, il700, il740, il900, il940, il1024, il1600, il4800, il64000, il125000, il262143, il1000000000, iI_toInt, iI_add, iI_sub, iI_mul, iI_neg, iI_lt, iI_le, iI_eq, iI_n, iI_in, iI_div, iI_mod, iI_shm, iI_and1, iI_and7, iI_and63, iI_shr3, iI_shr6, rd_I, ob, Option.some.injEq, exists_eq_left', exists_eq_left, true_and, and_true, fqI, fqJ, eq_self, true_or, or_true, bP_0, bP_0i, npP, bP_1i, bP_b, not_true_eq_false, not_false_eq_true, false_implies, true_implies, implies_true, Classical.not_not, and_self]
  intro g1 w1
  obtain ⟨Q1, F1, R1⟩ := Q.st (i := 2 * c + 1) (v := who) (by omega) wb w1
  have M1 := Q1.X.M
  refine ⟨fun n0 => ?_, fun e0 => ⟨M1.o0, ?_⟩⟩
  · refine m_act147 Q1 hc (by omega) fun h' Q' R' => KS h' p wh Q' (by rw [R', R1]) (e.trans (ite_f n0))
  · have e := e.trans (ite_t e0)
    unfold siS at e
    refine m_side Q1.X (fun k1 k2 k3 => ⟨fun _ => ⟨M1.o0, ?_⟩, fun u => absurd ((iI_le (by omega) (by omega) (by omega) (by omega)).mpr (by omega)) u⟩) (fun k0 => ⟨fun u => absurd u (by decide), fun _ => ⟨M1.o0, Q1.bad (by omega) (e.trans (ite_f k0)) (fun g F E => ⟨Or.inl rfl, KF g F E⟩)⟩⟩)
    have e := e.trans (ite_t ⟨k1, k2, k3⟩)
    refine Q1.X.nxt (by omega) fun g2 u2 X2 => ?_
    exact m_act147 (Q1.ps u2.ps X2) hc (by omega) fun h' Q' R' => KS h' _ _ Q' (by rw [R', u2.1.row (by simp), R1]) e
theorem m_act43 (Q : PX T n m h0 h p N rc c) (k1 : tkK T n m p = 1) (hc : 0 ≤ c ∧ c ≤ 60) (rb : 0 ≤ rc ∧ rc ≤ 8) (hw : (wh = 0 ∧ w = 15) ∨ (wh = 4 ∧ w = 16) ∨ (wh = 5 ∧ w = 17)) (e : R = acS T n m N rc w A c (tkA T n m p) (tkE T n m p)) (KF : ∀ h', mA h0 h' → Flt h' R → post h' (iI 0)) (KS : ∀ h' q how who, PX T n m h0 h' q N rc c → rd h' 96 = updT (updT (rd h 96) (2 * c + 1) who) (2 * c) how → R = okR (upA A c how who) N (c + 1) q → post h' (iI 1)) : wb_X12_act_43 h 92 (iI wh) post := by
  have M := Q.X.M
  have c27 := Q.c27
  unfold acS at e
  have e := e.trans (ite_t (by omega))
  unfold wb_X12_act_43
  simp (disch := omega) only [MSh.o0 M, MSh.p1 M, MSh.o1 M, MSh.l1 M, MSh.p6 M, MSh.o2 M, MSh.l2 M, MSh.p7 M, MSh.o3 M, MSh.l3 M, MSh.p8 M, MSh.o4 M, MSh.l4 M, MSh.p9 M, MSh.o5 M, MSh.l5 M, MSh.p10 M, MSh.o6 M, MSh.l6 M, MSh.p24 M, MSh.o7 M, MSh.l7 M, MSh.p25 M, MSh.o8 M, MSh.l8 M, MSh.p26 M, MSh.o9 M, MSh.l9 M, MSh.p32 M, MSh.o10 M, MSh.l10 M, MSh.p33 M, MSh.o11 M, MSh.l11 M, MSh.p35 M, MSh.o12 M, MSh.l12 M, MSh.p36 M, MSh.o13 M, MSh.l13 M, MSh.p37 M, MSh.o14 M, MSh.l14 M, MSh.p38 M, MSh.o15 M, MSh.l15 M, MSh.p39 M, MSh.o16 M, MSh.l16 M, MSh.p42 M, MSh.o17 M, MSh.l17 M, MSh.p43 M, MSh.o18 M, MSh.l18 M, MSh.p44 M, MSh.o19 M, MSh.l19 M, MSh.p45 M, MSh.o20 M, MSh.l20 M, MSh.p46 M, MSh.o21 M, MSh.l21 M, MSh.p47 M, MSh.o22 M, MSh.l22 M, MSh.p50 M, MSh.o23 M, MSh.l23 M, MSh.p51 M, MSh.o24 M, MSh.l24 M, MSh.p52 M, MSh.o25 M, MSh.l25 M, fd0, fd1, fd2, fd3, fd4, fd5, fd6, fd7, fd8, fd9, fd10, fd11, fd12, fd13, fd14, fd15, fd16, fd17, fd18, fd19, fd20, fd21, fd22, fd23, fd24, fd25, fd26, fd27, fd28, fd29, fd30, fd31, fd32, fd33, fd34, fd35, fd36, fd37, fd38, fd39, fd40, fd41, fd42, fd43, fd44, fd45, fd46, fd47, fd48, fd49, fd50, fd51, fd52, c27, -Int.reduceToNat, -Int32.reduceToNatClampNeg, il0, il1, il2, il3, il4, il5, il6, il7, il8, il9, il10, il11, il12, il13, il14, il15, il16, il17, il18, il19, il20, il21, il22, il23, il24, il25, il26, il27, il28, il29, il30, il31, il32, il35, il36, il38, il40, il42, il43, il44, il45, il46, il47, il48, il49, il50, il51, il52, il57, il59, il60, il63, il64, il75, il80, il95, il96, il97, il98, il99, il100, il120, il122, il123, il127, il128, il135, il167, il175, il225, il249, il250, il255, il256, il360, il370, il384, il600, il700, il740, il900, il940, il1024, il1600, il4800, il64000, il125000, il262143, il1000000000, iI_toInt, iI_add, iI_sub, iI_mul, iI_neg, iI_lt, iI_le, iI_eq, iI_n, iI_in, iI_div, iI_mod, iI_shm, iI_and1, iI_and7, iI_and63, iI_shr3, iI_shr6, rd_I, ob, Option.some.injEq, exists_eq_left', exists_eq_left, true_and, and_true, fqI, fqJ, eq_self, true_or, or_true, bP_0, bP_0i, npP, bP_1i, bP_b, not_true_eq_false, not_false_eq_true, false_implies, true_implies, implies_true, Classical.not_not, and_self]
  refine ⟨fun _ => ⟨fun c6 => ?_, fun c6 => Q.bad (by omega) (e.trans (ite_f (by omega))) (fun g F E => ⟨Or.inl rfl, KF g F E⟩)⟩, fun u => by omega⟩
  have e := e.trans (ite_t (by omega))
  refine Q.X.nxt (by omega) fun g1 u1 X1 => ?_
  have Q1 := Q.ps u1.ps X1
  have M1 := Q1.X.M
  have r96 : rd g1 96 = rd h 96 := u1.1.row (by simp)
  have e2 := Q1.r2
  refine ⟨fun n5 => ?_, fun e5 => ⟨M1.o0, ?_⟩⟩
  · have e := e.trans (ite_f (by omega))
    unfold raS naS at e
    simp (disch := omega) only [MSh.o0 M1, MSh.p1 M1, MSh.o1 M1, MSh.l1 M1, MSh.p6 M1, MSh.o2 M1, MSh.l2 M1, MSh.p7 M1, MSh.o3 M1, MSh.l3 M1, MSh.p8 M1, MSh.o4 M1, MSh.l4 M1, MSh.p9 M1, MSh.o5 M1, MSh.l5 M1, MSh.p10 M1, MSh.o6 M1, MSh.l6 M1, MSh.p24 M1, MSh.o7 M1, MSh.l7 M1, MSh.p25 M1, MSh.o8 M1, MSh.l8 M1, MSh.p26 M1, MSh.o9 M1, MSh.l9 M1, MSh.p32 M1, MSh.o10 M1, MSh.l10 M1, MSh.p33 M1, MSh.o11 M1, MSh.l11 M1, MSh.p35 M1, MSh.o12 M1, MSh.l12 M1, MSh.p36 M1, MSh.o13 M1, MSh.l13 M1, MSh.p37 M1, MSh.o14 M1, MSh.l14 M1, MSh.p38 M1, MSh.o15 M1, MSh.l15 M1, MSh.p39 M1, MSh.o16 M1, MSh.l16 M1, MSh.p42 M1, MSh.o17 M1, MSh.l17 M1, MSh.p43 M1, MSh.o18 M1, MSh.l18 M1, MSh.p44 M1, MSh.o19 M1, MSh.l19 M1, MSh.p45 M1, MSh.o20 M1, MSh.l20 M1, MSh.p46 M1, MSh.o21 M1, MSh.l21 M1, MSh.p47 M1, MSh.o22 M1, MSh.l22 M1, MSh.p50 M1, MSh.o23 M1, MSh.l23 M1, MSh.p51 M1, MSh.o24 M1, MSh.l24 M1, MSh.p52 M1, MSh.o25 M1, MSh.l25 M1, fd0, fd1, fd2, fd3, fd4, fd5, fd6, fd7, fd8, fd9, fd10, fd11, fd12, fd13, fd14, fd15, fd16, fd17, fd18, fd19, fd20, fd21, fd22, fd23, fd24, fd25, fd26, fd27, fd28, fd29, fd30, fd31, fd32, fd33, fd34, fd35, fd36, fd37, fd38, fd39, fd40, fd41, fd42, fd43, fd44, fd45, fd46, fd47, fd48, fd49, fd50, fd51, fd52, e2, -Int.reduceToNat, -Int32.reduceToNatClampNeg, il0, il1, il2, il3, il4, il5, il6, il7, il8, il9, il10, il11, il12, il13, il14, il15, il16, il17, il18, il19, il20, il21, il22, il23, il24, il25, il26, il27, il28, il29, il30, il31, il32, il35, il36, il38, il40, il42, il43, il44, il45, il46, il47, il48, il49, il50, il51, il52, il57, il59, il60, il63, il64, il75, il80, il95, il96, il97, il98, il99, il100, il120, il122, il123, il127, il128, il135, il167, il175, il225, il249, il250, il255, il256, il360, il370, il384, il600, il700, il740, il900, il940, il1024, il1600, il4800, il64000, il125000, il262143, il1000000000, iI_toInt, iI_add, iI_sub, iI_mul, iI_neg, iI_lt, iI_le, iI_eq, iI_n, iI_in, iI_div, iI_mod, iI_shm, iI_and1, iI_and7, iI_and63, iI_shr3, iI_shr6, rd_I, ob, Option.some.injEq, exists_eq_left', exists_eq_left, true_and, and_true, fqI, fqJ, eq_self, true_or, or_true, bP_0, bP_0i, npP, bP_1i, bP_b, not_true_eq_false, not_false_eq_true, false_implies, true_implies, implies_true, Classical.not_not, and_self]
    have fb := fnd_b (N := N) (l := tkW T n m (tkE T n m p)) rb.1
    refine m_takesRaft Q1.X Q1.rw (Or.inl rfl) rb (by omega) Q1.nm (fun h' k u cc e1 e2 => ⟨fun u => absurd rfl u, fun _ => KF h' (Q1.FF.trans u.ma) ?_⟩) (fun h' u c1 c2 c3 X e1 => ⟨fun _ => ?_, fun u => absurd u i10⟩)
    · rcases cc with ⟨c1, c2⟩ | ⟨c1, c2, c3⟩
      · rw [ite_f c1] at e
        rw [e]; exact ⟨by show (1 : Int) ≠ 0; omega, by rw [e1, c2]; rfl, e2⟩
      · rw [ite_t c1] at e
        have e : R = iteP _ _ _ := e
        rw [ite_t (c2.elim id id)] at e
        rw [e]; exact ⟨by show (3 : Int) ≠ 0; omega, by rw [e1, c3]; rfl, e2⟩
    · rw [ite_t c1] at e
      have e : R = iteP _ _ _ := e
      rw [ite_f c2] at e
      have e : R = iteP _ _ _ := e
      refine m_act107 (A := A) (Q1.ps u X) (by omega) e1 (by omega) (e.trans ?_) KF fun h2 q how Q2 R2 E2 => KS h2 q how _ Q2 (by rw [R2, u.1.row (by simp), r96]) E2
      rcases hw with ⟨z1, z2⟩ | ⟨z1, z2⟩ | z
      · rw [ite_t z2, ite_t z1]
      · rw [ite_f (show ¬ w = 15 by omega), ite_f (show ¬ wh = 0 by omega), z1]
      · omega
  · have e := e.trans (ite_t (by omega))
    unfold nuS at e
    refine m_takes (lo := 1) (hi := 96) Q1.X (by omega) (by omega) (fun h' k u cc e1 e2 => ⟨fun u => absurd rfl u, fun _ => KF h' (Q1.FF.trans u.ma) ?_⟩) (fun h' u c1 c2 X e1 => ⟨fun _ => ?_, fun u => absurd u i10⟩)
    · rcases cc with ⟨c1, c2⟩ | ⟨c1, c2, c3⟩
      · rw [ite_f c1] at e
        rw [e]; exact ⟨by show (1 : Int) ≠ 0; omega, by rw [e1, c2]; rfl, e2⟩
      · rw [ite_t c1, ite_f c2] at e
        rw [e]; exact ⟨by show (2 : Int) ≠ 0; omega, by rw [e1, c3]; rfl, e2⟩
    · rw [ite_t c1, ite_t c2] at e
      refine m_act107 (A := A) (wh := wh) (Q1.ps u X) (by omega) e1 (by omega) (e.trans ?_) KF fun h2 q how Q2 R2 E2 => KS h2 q how _ Q2 (by rw [R2, u.1.row (by simp), r96]) E2
      rw [ite_f (show ¬ wh = 0 by omega), show wh = 5 by omega]
theorem m_act (Q : PX T n m h0 h p N rc c) (hc : 0 ≤ c ∧ c ≤ 60) (rb : 0 ≤ rc ∧ rc ≤ 8) (e : R = acS T n m N rc (wdI T n m p) A c (tkA T n m p) (tkE T n m p)) (KF : ∀ h', mA h0 h' → Flt h' R → post h' (iI 0)) (KS : ∀ h' q how who, PX T n m h0 h' q N rc c → rd h' 96 = updT (updT (rd h 96) (2 * c + 1) who) (2 * c) how → R = okR (upA A c how who) N (c + 1) q → post h' (iI 1)) : wp_X12_act h 92 post := by
  have M := Q.X.M
  have neg : wdI T n m p ≠ 15 → wdI T n m p ≠ 16 → wdI T n m p ≠ 17 → wb_X12_act_43 h 92 (iI (-1)) post := by
    intro u1 u2 u3
    unfold acS at e
    have e := e.trans (ite_f (by omega))
    unfold wb_X12_act_43
    simp (disch := omega) only [-Int.reduceToNat, -Int32.reduceToNatClampNeg, il0, il1, il2, il3, il4, il5, il6, il7, il8, il9, il10, il11, il12, il13, il14, il15, il16, il17, il18, il19, il20, il21, il22, il23, il24, il25, il26, il27, il28, il29, il30, il31, il32, il35, il36, il38, il40, il42, il43, il44, il45, il46, il47, il48, il49, il50, il51, il52, il57, il59, il60, il63, il64, il75, il80, il95, il96, il97, il98, il99, il100, il120, il122, il123, il127, il128, il135, il167, il175, il225, il249, il250, il255, il256, il360, il370, il384, il600, il700, il740, il900, il940, il1024, il1600, il4800, il64000, il125000, il262143, il1000000000, iI_toInt, iI_add, iI_sub, iI_mul, iI_neg, iI_lt, iI_le, iI_eq, iI_n, iI_in, iI_div, iI_mod, iI_shm, iI_and1, iI_and7, iI_and63, iI_shr3, iI_shr6, rd_I, ob, Option.some.injEq, exists_eq_left', exists_eq_left, true_and, and_true, fqI, fqJ, eq_self, true_or, or_true, bP_0, bP_0i, npP, bP_1i, bP_b, not_true_eq_false, not_false_eq_true, false_implies, true_implies, implies_true, Classical.not_not, and_self]
    exact ⟨fun u => by omega, fun _ => ⟨M.o0, Q.bad (by omega) e (fun g F E => ⟨Or.inl rfl, KF g F E⟩)⟩⟩
  unfold wp_X12_act
  exact ⟨M.o0, m_isWord Q.X (i := 15) (by omega) (by omega) (by decide) (fun u => ⟨fun v => absurd v i10, fun _ => m_act43 (wh := 0) Q (wd_k (by omega) u) hc rb (Or.inl ⟨rfl, u⟩) e KF KS⟩) fun u1 => ⟨fun _ => ⟨M.o0, m_isWord Q.X (i := 16) (by omega) (by omega) (by decide) (fun u => ⟨fun v => absurd v i10, fun _ => m_act43 (wh := 4) Q (wd_k (by omega) u) hc rb (Or.inr (Or.inl ⟨rfl, u⟩)) e KF KS⟩) fun u2 => ⟨fun _ => ⟨M.o0, m_isWord Q.X (i := 17) (by omega) (by omega) (by decide) (fun u => ⟨fun v => absurd v i10, fun _ => m_act43 (wh := 5) Q (wd_k (by omega) u) hc rb (Or.inr (Or.inr ⟨rfl, u⟩)) e KF KS⟩) fun u3 => ⟨fun _ => neg u1 u2 u3, fun v => absurd rfl v⟩⟩, fun v => absurd rfl v⟩⟩, fun v => absurd rfl v⟩⟩
/-- what the reading of a plan changes in the model -/
def mP (h h' : AH) : Prop := Fr [92, 96] [92] [] h h' ∧ ∀ j, j ∉ [(4 : Int), 11, 12, 13, 14, 15, 16, 18, 27] → rd h' 92 j = rd h 92 j
theorem mP.trans (u : mP h h1) (v : mP h1 h2) : mP h h2 := ⟨u.1.trans v.1, fun j hj => (v.2 j hj).trans (u.2 j hj)⟩
theorem mA.mp (u : mA h h') : mP h h' := ⟨u.1, fun j hj => u.2 j fun q => hj (by simp only [List.mem_cons, List.not_mem_nil, or_false] at q ⊢; omega)⟩
theorem m_acts {R0 : RT} (rb : 0 ≤ rc ∧ rc ≤ 8) (KF : ∀ h' (R : RT), mP h0 h' → R = R0 → Flt h' R → (-2147483648 ≤ R.2.1 ∧ R.2.1 < 2147483648) → post h' (iI (-1 - R.2.1))) (KS : ∀ h' A c, MSh h' → mP h0 h' → rd h' 92 27 = c → rd h' 92 15 = 0 → (∀ k, 0 ≤ k → k < 2 * c → rd h' 96 k = A k) → 0 ≤ c → c ≤ 60 → R0 = okR A N c 0 → ∀ g, g = hI h' 94 (249 : Int).toNat (iI c) → ∃ k, wl_X12_plan_83 post k g 92 (iI 0)) :
    ∀ (dd : Nat) (h : AH) (A : Int → Int) (p c : Int), PX T n m h h p N rc c → mP h0 h → AOk A c rc → c + dd = 62 → 0 ≤ c → c ≤ 60 → (∀ k, 0 ≤ k → k < 2 * c → rd h 96 k = A k) → R0 = psS T n m N rc dd A c p → wl_X12_plan_26 post (dd + 1) h 92 := by
  intro dd
  induction dd with
  | zero => intro h A p c Q ML AO hd c0 c6; omega
  | succ dd ih =>
    intro h A p c Q ML AO hd c0 c6 EA E
    have M := Q.X.M
    have b11 := rd_bd h 92 11
    have hp := Q.X.hp
    have hn := Q.X.hn
    have hm := Q.X.hm
    have tb := Q.X.bd
    have c27 := Q.c27
    show wb_X12_plan_26 (wl_X12_plan_26 post (dd + 1)) h 92 post
    rw [psS] at E
    have badE : ∀ (R : RT) g, R0 = R → (-2147483648 ≤ R.2.1 ∧ R.2.1 < 2147483648) → mA h g → Flt g R → wb_X12_plan_49 g 92 post := by
      intro R g eR bR F Fl
      have Mg : MSh g := M.gr (F.1.gr)
      have e16 := Fl.2.2
      have := KF g R (ML.trans F.mp) eR.symm Fl bR
      unfold wb_X12_plan_49
      simp (disch := omega) only [MSh.o0 Mg, MSh.p1 Mg, MSh.o1 Mg, MSh.l1 Mg, MSh.p6 Mg, MSh.o2 Mg, MSh.l2 Mg, MSh.p7 Mg, MSh.o3 Mg, MSh.l3 Mg, MSh.p8 Mg, MSh.o4 Mg, MSh.l4 Mg, MSh.p9 Mg, MSh.o5 Mg, MSh.l5 Mg, MSh.p10 Mg, MSh.o6 Mg, MSh.l6 Mg, MSh.p24 Mg, MSh.o7 Mg, MSh.l7 Mg, MSh.p25 Mg, MSh.o8 Mg, MSh.l8 Mg, MSh.p26 Mg, MSh.o9 Mg, MSh.l9 Mg, MSh.p32 Mg, MSh.o10 Mg, MSh.l10 Mg, MSh.p33 Mg, MSh.o11 Mg, MSh.l11 Mg, MSh.p35 Mg, MSh.o12 Mg, MSh.l12 Mg, MSh.p36 Mg, MSh.o13 Mg, MSh.l13 Mg, MSh.p37 Mg, MSh.o14 Mg, MSh.l14 Mg, MSh.p38 Mg, MSh.o15 Mg, MSh.l15 Mg, MSh.p39 Mg, MSh.o16 Mg, MSh.l16 Mg, MSh.p42 Mg, MSh.o17 Mg, MSh.l17 Mg, MSh.p43 Mg, MSh.o18 Mg, MSh.l18 Mg, MSh.p44 Mg, MSh.o19 Mg, MSh.l19 Mg, MSh.p45 Mg, MSh.o20 Mg, MSh.l20 Mg, MSh.p46 Mg, MSh.o21 Mg, MSh.l21 Mg, MSh.p47 Mg, MSh.o22 Mg, MSh.l22 Mg, MSh.p50 Mg, MSh.o23 Mg, MSh.l23 Mg, MSh.p51 Mg, MSh.o24 Mg, MSh.l24 Mg, MSh.p52 Mg, MSh.o25 Mg, MSh.l25 Mg, fd0, fd1, fd2, fd3, fd4, fd5, fd6, fd7, fd8, fd9, fd10, fd11, fd12, fd13, fd14, fd15, fd16, fd17, fd18, fd19, fd20, fd21, fd22, fd23, fd24, fd25, fd26, fd27, fd28, fd29, fd30, fd31, fd32, fd33, fd34, fd35, fd36, fd37, fd38, fd39, fd40, fd41, fd42, fd43, fd44, fd45, fd46, fd47, fd48, fd49, fd50, fd51, fd52, e16, -Int.reduceToNat, -Int32.reduceToNatClampNeg, il0, il1, il2, il3, il4, il5, il6, il7, il8, il9, il10, il11, il12, il13, il14, il15, il16, il17, il18, il19, il20, il21, il22, il23, il24, il25, il26, il27, il28, il29, il30, il31, il32, il35, il36, il38, il40, il42, il43, il44, il45, il46, il47, il48, il49, il50, il51, il52, il57, il59, il60, il63, il64, il75, il80, il95, il96, il97, il98, il99, il100, il120, il122, il123, il127, il128, il135, il167, il175, il225, il249, il250, il255, il256, il360, il370, il384, il600, il700, il740, il900, il940, il1024, il1600, il4800, il64000, il125000, il262143, il1000000000, iI_toInt, iI_add, iI_sub, iI_mul, iI_neg, iI_lt, iI_le, iI_eq, iI_n, iI_in, iI_div, iI_mod, iI_shm, iI_and1, iI_and7, iI_and63, iI_shr3, iI_shr6, rd_I, ob, Option.some.injEq, exists_eq_left', exists_eq_left, true_and, and_true, fqI, fqJ, eq_self, true_or, or_true, bP_0, bP_0i, npP, bP_1i, bP_b, not_true_eq_false, not_false_eq_true, false_implies, true_implies, implies_true, Classical.not_not, and_self]
      exact this
    unfold wb_X12_plan_26
    simp (disch := omega) only [MSh.o0 M, MSh.p1 M, MSh.o1 M, MSh.l1 M, MSh.p6 M, MSh.o2 M, MSh.l2 M, MSh.p7 M, MSh.o3 M, MSh.l3 M, MSh.p8 M, MSh.o4 M, MSh.l4 M, MSh.p9 M, MSh.o5 M, MSh.l5 M, MSh.p10 M, MSh.o6 M, MSh.l6 M, MSh.p24 M, MSh.o7 M, MSh.l7 M, MSh.p25 M, MSh.o8 M, MSh.l8 M, MSh.p26 M, MSh.o9 M, MSh.l9 M, MSh.p32 M, MSh.o10 M, MSh.l10 M, MSh.p33 M, MSh.o11 M, MSh.l11 M, MSh.p35 M, MSh.o12 M, MSh.l12 M, MSh.p36 M, MSh.o13 M, MSh.l13 M, MSh.p37 M, MSh.o14 M, MSh.l14 M, MSh.p38 M, MSh.o15 M, MSh.l15 M, MSh.p39 M, MSh.o16 M, MSh.l16 M, MSh.p42 M, MSh.o17 M, MSh.l17 M, MSh.p43 M, MSh.o18 M, MSh.l18 M, MSh.p44 M, MSh.o19 M, MSh.l19 M, MSh.p45 M, MSh.o20 M, MSh.l20 M, MSh.p46 M, MSh.o21 M, MSh.l21 M, MSh.p47 M, MSh.o22 M, MSh.l22 M, MSh.p50 M, MSh.o23 M, MSh.l23 M, MSh.p51 M, MSh.o24 M, MSh.l24 M, MSh.p52 M, MSh.o25 M, MSh.l25 M, fd0, fd1, fd2, fd3, fd4, fd5, fd6, fd7, fd8, fd9, fd10, fd11, fd12, fd13, fd14, fd15, fd16, fd17, fd18, fd19, fd20, fd21, fd22, fd23, fd24, fd25, fd26, fd27, fd28, fd29, fd30, fd31, fd32, fd33, fd34, fd35, fd36, fd37, fd38, fd39, fd40, fd41, fd42, fd43, fd44, fd45, fd46, fd47, fd48, fd49, fd50, fd51, fd52, Q.X.k0, c27, -Int.reduceToNat, -Int32.reduceToNatClampNeg, il0, il1, il2, il3, il4, il5, il6, il7, il8, il9, il10, il11, il12, il13, il14, il15, il16, il17, il18, il19, il20, il21, il22, il23, il24, il25, il26, il27, il28, il29, il30, il31, il32, il35, il36, il38, il40, il42, il43, il44, il45, il46, il47, il48, il49, il50, il51, il52, il57, il59, il60, il63, il64, il75, il80, il95, il96, il97, il98, il99, il100, il120, il122, il123, il127, il128, il135, il167, il175, il225, il249, il250, il255, il256, il360, il370, il384, il600, il700, il740, il900, il940, il1024, il1600, il4800, il64000, il125000, il262143, il1000000000, iI_toInt, iI_add, iI_sub, iI_mul, iI_neg, iI_lt, iI_le, iI_eq, iI_n, iI_in, iI_div, iI_mod, iI_shm, iI_and1, iI_and7, iI_and63, iI_shr3, iI_shr6, rd_I, ob, Option.some.injEq, exists_eq_left', exists_eq_left, true_and, and_true, fqI, fqJ, eq_self, true_or, or_true, bP_0, bP_0i, npP, bP_1i, bP_b, not_true_eq_false, not_false_eq_true, false_implies, true_implies, implies_true, Classical.not_not, and_self]
    refine ⟨fun k4 => ?_, fun nk => ?_⟩
    · rw [ite_t k4.1, ite_t k4.2] at E
      exact KS h A c M ML c27 Q.ft EA c0 c6 E
    · refine m_act (A := A) Q ⟨c0, c6⟩ rb rfl (fun g F Fl => ⟨fun _ => ?_, fun u => absurd rfl u⟩) (fun g q how who L R96 eR => ⟨fun u => absurd u i10, fun _ => ⟨L.X.M.o0, ?_⟩⟩)
      · have e16 := Fl.2.2
        have bb := rd_bd g 92 16
        rw [e16] at bb
        refine badE (acS T n m N rc (wdI T n m p) A c (tkA T n m p) (tkE T n m p)) g ?_ bb F Fl
        by_cases k4 : tkK T n m p = 4
        · rw [ite_t k4, ite_f (fun u => nk ⟨k4, u⟩)] at E
          rw [E, show wdI T n m p = -1 by unfold wdI; rw [ite_f (by omega)]]
          unfold acS
          rw [ite_f (by omega)]
        · rw [ite_f k4] at E
          have eL : anS T n m N rc (wdI T n m p) A c (tkA T n m p) (tkE T n m p) = acS T n m N rc (wdI T n m p) A c (tkA T n m p) (tkE T n m p) := by
            unfold anS
            rw [ite_f Fl.1]
          rw [eL, ite_f Fl.1] at E
          exact E
      · have k4 : ¬ tkK T n m p = 4 := fun k4 => by
          rw [show wdI T n m p = -1 by unfold wdI; rw [ite_f (by omega)]] at eR
          unfold acS at eR
          rw [ite_f (by omega)] at eR
          have := congrArg (fun r : RT => r.1) eR
          have : (1 : Int) = 0 := this
          omega
        rw [ite_f k4] at E
        have kp := ac_ok (T := T) (N := N) (w := wdI T n m p) (a := tkA T n m p) (p := tkE T n m p) (m := m) AO rb.1 ⟨by omega, tb.2.2⟩ hm.1
        rw [eR] at kp
        obtain ⟨AO', _, c60, p1, p2⟩ := kp rfl
        have AO' : AOk (upA A c how who) (c + 1) rc := AO'
        have p1 : tkE T n m p ≤ q := p1
        have p2 : q ≤ n := p2
        have eLn : anS T n m N rc (wdI T n m p) A c (tkA T n m p) (tkE T n m p) = iteP (tkK T n m q = 3) (okR (upA A c how who) N (c + 1) (tkE T n m q)) (bdR 1 (tkA T n m q)) := by
          unfold anS
          rw [eR]
          exact ite_t rfl
        have Mg := L.X.M
        have g11 := rd_bd g 92 11
        have g14 := rd_bd g 92 14
        unfold wp_X12_sign wp_X12_isSign
        simp (disch := omega) only [MSh.o0 Mg, MSh.p1 Mg, MSh.o1 Mg, MSh.l1 Mg, MSh.p6 Mg, MSh.o2 Mg, MSh.l2 Mg, MSh.p7 Mg, MSh.o3 Mg, MSh.l3 Mg, MSh.p8 Mg, MSh.o4 Mg, MSh.l4 Mg, MSh.p9 Mg, MSh.o5 Mg, MSh.l5 Mg, MSh.p10 Mg, MSh.o6 Mg, MSh.l6 Mg, MSh.p24 Mg, MSh.o7 Mg, MSh.l7 Mg, MSh.p25 Mg, MSh.o8 Mg, MSh.l8 Mg, MSh.p26 Mg, MSh.o9 Mg, MSh.l9 Mg, MSh.p32 Mg, MSh.o10 Mg, MSh.l10 Mg, MSh.p33 Mg, MSh.o11 Mg, MSh.l11 Mg, MSh.p35 Mg, MSh.o12 Mg, MSh.l12 Mg, MSh.p36 Mg, MSh.o13 Mg, MSh.l13 Mg, MSh.p37 Mg, MSh.o14 Mg, MSh.l14 Mg, MSh.p38 Mg, MSh.o15 Mg, MSh.l15 Mg, MSh.p39 Mg, MSh.o16 Mg, MSh.l16 Mg, MSh.p42 Mg, MSh.o17 Mg, MSh.l17 Mg, MSh.p43 Mg, MSh.o18 Mg, MSh.l18 Mg, MSh.p44 Mg, MSh.o19 Mg, MSh.l19 Mg, MSh.p45 Mg, MSh.o20 Mg, MSh.l20 Mg, MSh.p46 Mg, MSh.o21 Mg, MSh.l21 Mg, MSh.p47 Mg, MSh.o22 Mg, MSh.l22 Mg, MSh.p50 Mg, MSh.o23 Mg, MSh.l23 Mg, MSh.p51 Mg, MSh.o24 Mg, MSh.l24 Mg, MSh.p52 Mg, MSh.o25 Mg, MSh.l25 Mg, fd0, fd1, fd2, fd3, fd4, fd5, fd6, fd7, fd8, fd9, fd10, fd11, fd12, fd13, fd14, fd15, fd16, fd17, fd18, fd19, fd20, fd21, fd22, fd23, fd24, fd25, fd26, fd27, fd28, fd29, fd30, fd31, fd32, fd33, fd34, fd35, fd36, fd37, fd38, fd39, fd40, fd41, fd42, fd43, fd44, fd45, fd46, fd47, fd48, fd49, fd50, fd51, fd52, L.X.k3, -Int.reduceToNat, -Int32.reduceToNatClampNeg, il0, il1, il2, il3, il4, il5, il6, il7, il8, il9, il10, il11, il12, il13, il14, il15, il16, il17, il18, il19, il20, il21, il22, il23, il24, il25, il26, il27, il28, il29, il30, il31, il32, il35, il36, il38, il40, il42, il43, il44, il45, il46, il47, il48, il49, il50, il51, il52, il57, il59, il60, il63, il64, il75, il80, il95, il96, il97, il98, il99, il100, il120, il122, il123, il127, il128, il135, il167, il175, il225, il249, il250, il255, il256, il360, il370, il384, il600, il700, il740, il900, il940, il1024, il1600, il4800, il64000, il125000, il262143, il1000000000, iI_toInt, iI_add, iI_sub, iI_mul, iI_neg, iI_lt, iI_le, iI_eq, iI_n, iI_in, iI_div, iI_mod, iI_shm, iI_and1, iI_and7, iI_and63, iI_shr3, iI_shr6, rd_I, ob, Option.some.injEq, exists_eq_left', exists_eq_left, true_and, and_true, fqI, fqJ, eq_self, true_or, or_true, bP_0, bP_0i, npP, bP_1i, bP_b, not_true_eq_false, not_false_eq_true, false_implies, true_implies, implies_true, Classical.not_not, and_self]
        refine ⟨fun k3 => ?_, fun k3 => ⟨fun u => absurd (L.X.w3 k3) u, fun _ => ?_⟩⟩
        · rw [ite_f k3] at eLn
          rw [eLn, ite_f (show ¬ (bdR 1 (tkA T n m q)).1 = 0 by show ¬ (1 : Int) = 0; omega)] at E
          have qb := L.X.bd
          refine L.bad (R := bdR 1 (tkA T n m q)) (by omega) rfl fun g2 F2 Fl2 => ?_
          exact ⟨Or.inl rfl, fun z => absurd rfl z, fun _ => badE _ g2 E (by show -2147483648 ≤ tkA T n m q ∧ tkA T n m q < 2147483648; omega) F2 Fl2⟩
        · rw [ite_t k3] at eLn
          rw [eLn, ite_t (show (okR (upA A c how who) N (c + 1) (tkE T n m q)).1 = 0 from rfl)] at E
          refine ⟨fun _ => L.X.nxt (by omega) fun g2 u2 X2 => ⟨fun _ => ?_, fun z => absurd z (by omega)⟩, fun z => absurd z (by omega)⟩
          have L2 := L.ps u2.ps X2
          have M2 := L2.X.M
          have c27' := L2.c27
          simp (disch := omega) only [MSh.o0 M2, MSh.p1 M2, MSh.o1 M2, MSh.l1 M2, MSh.p6 M2, MSh.o2 M2, MSh.l2 M2, MSh.p7 M2, MSh.o3 M2, MSh.l3 M2, MSh.p8 M2, MSh.o4 M2, MSh.l4 M2, MSh.p9 M2, MSh.o5 M2, MSh.l5 M2, MSh.p10 M2, MSh.o6 M2, MSh.l6 M2, MSh.p24 M2, MSh.o7 M2, MSh.l7 M2, MSh.p25 M2, MSh.o8 M2, MSh.l8 M2, MSh.p26 M2, MSh.o9 M2, MSh.l9 M2, MSh.p32 M2, MSh.o10 M2, MSh.l10 M2, MSh.p33 M2, MSh.o11 M2, MSh.l11 M2, MSh.p35 M2, MSh.o12 M2, MSh.l12 M2, MSh.p36 M2, MSh.o13 M2, MSh.l13 M2, MSh.p37 M2, MSh.o14 M2, MSh.l14 M2, MSh.p38 M2, MSh.o15 M2, MSh.l15 M2, MSh.p39 M2, MSh.o16 M2, MSh.l16 M2, MSh.p42 M2, MSh.o17 M2, MSh.l17 M2, MSh.p43 M2, MSh.o18 M2, MSh.l18 M2, MSh.p44 M2, MSh.o19 M2, MSh.l19 M2, MSh.p45 M2, MSh.o20 M2, MSh.l20 M2, MSh.p46 M2, MSh.o21 M2, MSh.l21 M2, MSh.p47 M2, MSh.o22 M2, MSh.l22 M2, MSh.p50 M2, MSh.o23 M2, MSh.l23 M2, MSh.p51 M2, MSh.o24 M2, MSh.l24 M2, MSh.p52 M2, MSh.o25 M2, MSh.l25 M2, fd0, fd1, fd2, fd3, fd4, fd5, fd6, fd7, fd8, fd9, fd10, fd11, fd12, fd13, fd14, fd15, fd16, fd17, fd18, fd19, fd20, fd21, fd22, fd23, fd24, fd25, fd26, fd27, fd28, fd29, fd30, fd31, fd32, fd33, fd34, fd35, fd36, fd37, fd38, fd39, fd40, fd41, fd42, fd43, fd44, fd45, fd46, fd47, fd48, fd49, fd50, fd51, fd52, c27', -Int.reduceToNat, -Int32.reduceToNatClampNeg, il0, il1, il2, il3, il4, il5, il6, il7, il8, il9, il10, il11, il12, il13, il14, il15, il16, il17, il18, il19, il20, il21, il22, il23, il24, il25, il26, il27, il28, il29, il30, il31, il32, il35, il36, il38, il40, il42, il43, il44, il45, il46, il47, il48, il49, il50, il51, il52, il57, il59, il60, il63, il64, il75, il80, il95, il96, il97, il98, il99, il100, il120, il122, il123, il127, il128, il135, il167, il175, il225, il249, il250, il255, il256, il360, il370, il384, il600, il700, il740, il900, il940, il1024, il1600, il4800, il64000, il125000, il262143, il1000000000, iI_toInt, iI_add, iI_sub, iI_mul, iI_neg, iI_lt, iI_le, iI_eq, iI_n, iI_in, iI_div, iI_mod, iI_shm, iI_and1, iI_and7, iI_and63, iI_shr3, iI_shr6, rd_I, ob, Option.some.injEq, exists_eq_left', exists_eq_left, true_and, and_true, fqI, fqJ, eq_self, true_or, or_true, bP_0, bP_0i, npP, bP_1i, bP_b, not_true_eq_false, not_false_eq_true, false_implies, true_implies, implies_true, Classical.not_not, and_self]
          intro g3 w3
          obtain ⟨f3, r3⟩ := wI (i := 27) (by omega) (by omega) (by omega) w3
          obtain ⟨X0, rw0, F0, r2', nm, cc27, ft⟩ := L2
          have ML3 : mP h g3 := F0.mp.trans ⟨f3.mono (by simp) (by simp) (by simp), fun j hj => by rw [r3, updT_n (fun z => hj (by rw [z]; simp))]⟩
          refine ih g3 (upA A c how who) (tkE T n m q) (c + 1) ⟨X0.put f3 r3 (by omega), fun i i0 i1 => by rw [f3.2.2.2.2.2.1 98 (by simp)]; exact rw0 i i0 i1, mA.refl g3, by rw [f3.row (by simp)]; exact r2', fun r r0 r1 => by rw [f3.2.2.2.2.2.1 97 (by simp)]; exact nm r r0 r1, by rw [r3, updT_s], by rw [r3, updT_n (by omega)]; exact ft⟩ (ML.trans ML3) AO' (by omega) (by omega) (by omega) (fun k k0 k1 => ?_) E
          rw [f3.row (by simp), u2.1.row (by simp), R96]
          unfold upA
          by_cases z1 : k = 2 * c
          · rw [z1, updT_s, updT_s]
          · rw [updT_n z1, updT_n z1]
            by_cases z2 : k = 2 * c + 1
            · rw [z2, updT_s, updT_s]
            · rw [updT_n z2, updT_n z2]; exact EA k k0 (by omega)
def plF (h h' : AH) : Prop := (∀ j, j ∉ [(0 : Int), 2, 3, 4, 5, 11, 12, 13, 14, 15, 16, 18, 27] → rd h' 92 j = rd h 92 j) ∧ rd h' 92 2 = 0
theorem mX_plan (M : MSh h) (W : RSV h) (hT : rd h 93 = T) (tb : ∀ k, -128 ≤ T k ∧ T k ≤ 127) (hn : rd h 92 2 = n) (nb : 0 ≤ n ∧ n ≤ 940) (hr : rd h 94 2 = rc) (rb : 0 ≤ rc ∧ rc ≤ 8) (nm : ∀ r, 0 ≤ r → r < rc → aJ h 97 (0 + r).toNat = Int64.ofInt (w8 (N r)) ∧ Ltr (N r) ∧ (N r).length ≤ 6)
    (KF : ∀ h' (R : RT), R = psS T n 700 N rc 62 (fun _ => 0) 0 0 → R.1 ≠ 0 → Fr [92, 96] [92] [] h h' → plF h h' → rd h' 92 15 = R.1 → post h' (iI (-1 - R.2.1)))
    (KS : ∀ h' A c, psS T n 700 N rc 62 (fun _ => 0) 0 0 = okR A N c 0 → 0 ≤ c → c ≤ 60 → Fr [92, 94, 96] [92] [] h h' → plF h h' → rd h' 92 15 = 0 → rd h' 94 249 = c → (∀ k, 0 ≤ k → k < 2 * c → rd h' 94 (250 + k) = A k) → (∀ j, j < 249 ∨ 250 + 2 * c ≤ j → rd h' 94 j = rd h 94 j) → post h' (iI c)) : wp_X12_plan h 92 post := by
  unfold wp_X12_plan
  simp (disch := omega) only [-Int.reduceToNat, -Int32.reduceToNatClampNeg, il0, il1, il2, il3, il4, il5, il6, il7, il8, il9, il10, il11, il12, il13, il14, il15, il16, il17, il18, il19, il20, il21, il22, il23, il24, il25, il26, il27, il28, il29, il30, il31, il32, il35, il36, il38, il40, il42, il43, il44, il45, il46, il47, il48, il49, il50, il51, il52, il57, il59, il60, il63, il64, il75, il80, il95, il96, il97, il98, il99, il100, il120, il122, il123, il127, il128, il135, il167, il175, il225, il249, il250, il255, il256, il360, il370, il384, il600, il700, il740, il900, il940, il1024, il1600, il4800, il64000, il125000, il262143, il1000000000, iI_toInt, iI_add, iI_sub, iI_mul, iI_neg, iI_lt, iI_le, iI_eq, iI_n, iI_in, iI_div, iI_mod, iI_shm, iI_and1, iI_and7, iI_and63, iI_shr3, iI_shr6, rd_I, ob, Option.some.injEq, exists_eq_left', exists_eq_left, true_and, and_true, fqI, fqJ, eq_self, true_or, or_true, bP_0, bP_0i, npP, bP_1i, bP_b, not_true_eq_false, not_false_eq_true, false_implies, true_implies, implies_true, Classical.not_not, and_self]
  refine ⟨M.o0, fun g1 w1 => ?_⟩
  obtain ⟨f1, r1⟩ := wI (i := 0) (by omega) (by omega) (by omega) w1
  have M1 := M.gr f1.gr
  have e2 : rd g1 92 2 = n := by rw [r1, updT_n (by omega), hn]
  refine ⟨M1.o0, m_taken M1 (by omega) (by omega) fun g2 f2 m2 q3 q2 q4 q5 => ?_⟩
  have M2 := M1.gr f2.gr
  refine ⟨M2.o0, fun g3 w3 => ?_⟩
  obtain ⟨f3, r3⟩ := wI (i := 15) (by omega) (by omega) (by omega) w3
  have M3 := M2.gr f3.gr
  refine ⟨M3.o0, fun g4 w4 => ?_⟩
  obtain ⟨f4, r4⟩ := wI (i := 27) (by omega) (by omega) (by omega) w4
  have M4 := M3.gr f4.gr
  have F4 : Fr [92] [] [] h g4 := f1.trans (f2.trans (f3.trans f4))
  have q : ∀ j, j ≠ 15 → j ≠ 27 → rd g4 92 j = rd g2 92 j := fun j j1 j2 => by rw [r4, updT_n j2, r3, updT_n j1]
  have K4 : MK T n 700 g4 0 := ⟨M4, by rw [F4.row (by simp), hT], tb, by rw [q 3 (by omega) (by omega), q3, e2], by rw [q 5 (by omega) (by omega), q5], by rw [q 4 (by omega) (by omega), q4], nb, by omega⟩
  have l4 : plF h g4 := ⟨fun j hj => by
    simp only [List.mem_cons, List.not_mem_nil, or_false] at hj
    rw [q j (by omega) (by omega), m2 j (by simp; omega), r1, updT_n (by omega)], by rw [q 2 (by omega) (by omega), q2]⟩
  refine ⟨M4.o0, m_next K4 (by omega) fun g8 u8 X8 => ?_⟩
  have F8 : Fr [92, 96] [92] [] h g8 := (F4.mono (by simp) (by simp) (by simp)).trans (u8.1.mono (by simp) (by simp) (by simp))
  have l8 : plF h g8 := ⟨fun j hj => by
    simp only [List.mem_cons, List.not_mem_nil, or_false] at hj
    rw [u8.2 j (by omega) (by omega) (by omega) (by omega) (by omega)]
    exact l4.1 j (by simp only [List.mem_cons, List.not_mem_nil, or_false]; omega), by rw [u8.2 2 (by omega) (by omega) (by omega) (by omega) (by omega)]; exact l4.2⟩
  have j8 : ∀ a : Nat, a ≠ 92 → aJ g8 a = aJ h a := fun a ha => by rw [u8.1.2.2.2.2.2.1 a (by simpa using ha), F4.2.2.2.2.2.1 a (by simp)]
  have Q8 : PX T n 700 g8 g8 0 N rc 0 := ⟨X8, fun i i0 i1 => by rw [j8 98 (by omega)]; exact W i i0 i1, mA.refl g8, by rw [F8.row (by simp)]; exact hr, fun r r0 r1 => by rw [j8 97 (by omega)]; exact nm r r0 r1, by rw [u8.2 27 (by omega) (by omega) (by omega) (by omega) (by omega), r4, updT_s], by rw [u8.2 15 (by omega) (by omega) (by omega) (by omega) (by omega), r4, updT_n (by omega), r3, updT_s]⟩
  have lgT : ∀ {g}, mP g8 g → plF h g := fun {g} u => ⟨fun j hj => by
    rw [u.2 j (fun z => hj (by simp only [List.mem_cons, List.not_mem_nil, or_false] at z ⊢; omega))]; exact l8.1 j hj, by rw [u.2 2 (by decide)]; exact l8.2⟩
  refine ⟨62 + 1, m_acts (R0 := psS T n 700 N rc 62 (fun _ => 0) 0 0) (h0 := g8) rb (fun h' R u eR Fl bR => ?_) (fun h' A c Mh u hc h15 E96 c0 c6 eR g w => ?_) 62 g8 (fun _ => 0) 0 0 Q8 ⟨(Fr.refl g8).mono (by simp) (by simp) (by simp), fun _ _ => rfl⟩ (fun k k0 k1 => by omega) (by omega) (by omega) (by omega) (fun k k0 k1 => by omega) rfl⟩
  · exact KF h' R eR Fl.1 (F8.trans u.1) (lgT u) Fl.2.1
  · obtain ⟨f9, r9⟩ := wI (i := 249) (by omega) (by omega) (by omega) w
    have Fh := F8.trans u.1
    have row94 : rd h' 94 = rd h 94 := Fh.row (by simp)
    have row92 : rd g 92 = rd h' 92 := f9.row (by simp)
    refine lf_for (W := fun k (g : AH) i => wl_X12_plan_83 post k g 92 (iI i)) (lo := 0) (hi := 2 * c) (fun i g' => Fr [94] [] [] g g' ∧ (∀ j, 0 ≤ j → j < i → rd g' 94 (250 + j) = A j) ∧ ∀ j, j < 250 ∨ 250 + i ≤ j → rd g' 94 j = rd g 94 j) (by omega) (fun k g' i i0 i1 I nx => ?_) (fun k g' I => ?_) g ⟨(Fr.refl g).mono (by simp) (by simp) (by simp), fun j j0 j1 => by omega, fun j _ => rfl⟩
    · obtain ⟨F, I1, I2⟩ := I
      show wb_X12_plan_83 (wl_X12_plan_83 post k) g' 92 (iI i) post
      have Mg := (Mh.gr f9.gr).gr F.gr
      have c27 : rd g' 92 27 = c := by rw [F.row (by simp), row92]; exact hc
      have ea : rd g' 96 i = A i := by rw [F.row (by simp), f9.row (by simp)]; exact E96 i i0 (by omega)
      have ba := rd_bd g' 96 i
      rw [ea] at ba
      unfold wb_X12_plan_83
      simp (disch := omega) only [MSh.o0 Mg, MSh.p1 Mg, MSh.o1 Mg, MSh.l1 Mg, MSh.p6 Mg, MSh.o2 Mg, MSh.l2 Mg, MSh.p7 Mg, MSh.o3 Mg, MSh.l3 Mg, MSh.p8 Mg, MSh.o4 Mg, MSh.l4 Mg, MSh.p9 Mg, MSh.o5 Mg, MSh.l5 Mg, MSh.p10 Mg, MSh.o6 Mg, MSh.l6 Mg, MSh.p24 Mg, MSh.o7 Mg, MSh.l7 Mg, MSh.p25 Mg, MSh.o8 Mg, MSh.l8 Mg, MSh.p26 Mg, MSh.o9 Mg, MSh.l9 Mg, MSh.p32 Mg, MSh.o10 Mg, MSh.l10 Mg, MSh.p33 Mg, MSh.o11 Mg, MSh.l11 Mg, MSh.p35 Mg, MSh.o12 Mg, MSh.l12 Mg, MSh.p36 Mg, MSh.o13 Mg, MSh.l13 Mg, MSh.p37 Mg, MSh.o14 Mg, MSh.l14 Mg, MSh.p38 Mg, MSh.o15 Mg, MSh.l15 Mg, MSh.p39 Mg, MSh.o16 Mg, MSh.l16 Mg, MSh.p42 Mg, MSh.o17 Mg, MSh.l17 Mg, MSh.p43 Mg, MSh.o18 Mg, MSh.l18 Mg, MSh.p44 Mg, MSh.o19 Mg, MSh.l19 Mg, MSh.p45 Mg, MSh.o20 Mg, MSh.l20 Mg, MSh.p46 Mg, MSh.o21 Mg, MSh.l21 Mg, MSh.p47 Mg, MSh.o22 Mg, MSh.l22 Mg, MSh.p50 Mg, MSh.o23 Mg, MSh.l23 Mg, MSh.p51 Mg, MSh.o24 Mg, MSh.l24 Mg, MSh.p52 Mg, MSh.o25 Mg, MSh.l25 Mg, fd0, fd1, fd2, fd3, fd4, fd5, fd6, fd7, fd8, fd9, fd10, fd11, fd12, fd13, fd14, fd15, fd16, fd17, fd18, fd19, fd20, fd21, fd22, fd23, fd24, fd25, fd26, fd27, fd28, fd29, fd30, fd31, fd32, fd33, fd34, fd35, fd36, fd37, fd38, fd39, fd40, fd41, fd42, fd43, fd44, fd45, fd46, fd47, fd48, fd49, fd50, fd51, fd52, c27, ea, -Int.reduceToNat, -Int32.reduceToNatClampNeg, il0, il1, il2, il3, il4, il5, il6, il7, il8, il9, il10, il11, il12, il13, il14, il15, il16, il17, il18, il19, il20, il21, il22, il23, il24, il25, il26, il27, il28, il29, il30, il31, il32, il35, il36, il38, il40, il42, il43, il44, il45, il46, il47, il48, il49, il50, il51, il52, il57, il59, il60, il63, il64, il75, il80, il95, il96, il97, il98, il99, il100, il120, il122, il123, il127, il128, il135, il167, il175, il225, il249, il250, il255, il256, il360, il370, il384, il600, il700, il740, il900, il940, il1024, il1600, il4800, il64000, il125000, il262143, il1000000000, iI_toInt, iI_add, iI_sub, iI_mul, iI_neg, iI_lt, iI_le, iI_eq, iI_n, iI_in, iI_div, iI_mod, iI_shm, iI_and1, iI_and7, iI_and63, iI_shr3, iI_shr6, rd_I, ob, Option.some.injEq, exists_eq_left', exists_eq_left, true_and, and_true, fqI, fqJ, eq_self, true_or, or_true, bP_0, bP_0i, npP, bP_1i, bP_b, not_true_eq_false, not_false_eq_true, false_implies, true_implies, implies_true, Classical.not_not, and_self]
      refine ⟨fun z => by omega, fun _ => ?_⟩
      intro g3 w3
      obtain ⟨f3, r3⟩ := wI (i := 250 + i) (by omega) ba.1 ba.2 w3
      refine nx g3 ⟨F.trans f3, fun j j0 j1 => ?_, fun j hj => ?_⟩
      · rw [r3]
        by_cases z : j = i
        · rw [z, updT_s]
        · rw [updT_n (by omega)]; exact I1 j j0 (by omega)
      · rw [r3, updT_n (by omega)]; exact I2 j (by omega)
    · obtain ⟨F, I1, I2⟩ := I
      show wb_X12_plan_83 (wl_X12_plan_83 post k) g' 92 (iI (2 * c)) post
      have Mg := (Mh.gr f9.gr).gr F.gr
      have row : rd g' 92 = rd h' 92 := by rw [F.row (by simp), row92]
      have c27 : rd g' 92 27 = c := by rw [row]; exact hc
      unfold wb_X12_plan_83
      simp (disch := omega) only [MSh.o0 Mg, MSh.p1 Mg, MSh.o1 Mg, MSh.l1 Mg, MSh.p6 Mg, MSh.o2 Mg, MSh.l2 Mg, MSh.p7 Mg, MSh.o3 Mg, MSh.l3 Mg, MSh.p8 Mg, MSh.o4 Mg, MSh.l4 Mg, MSh.p9 Mg, MSh.o5 Mg, MSh.l5 Mg, MSh.p10 Mg, MSh.o6 Mg, MSh.l6 Mg, MSh.p24 Mg, MSh.o7 Mg, MSh.l7 Mg, MSh.p25 Mg, MSh.o8 Mg, MSh.l8 Mg, MSh.p26 Mg, MSh.o9 Mg, MSh.l9 Mg, MSh.p32 Mg, MSh.o10 Mg, MSh.l10 Mg, MSh.p33 Mg, MSh.o11 Mg, MSh.l11 Mg, MSh.p35 Mg, MSh.o12 Mg, MSh.l12 Mg, MSh.p36 Mg, MSh.o13 Mg, MSh.l13 Mg, MSh.p37 Mg, MSh.o14 Mg, MSh.l14 Mg, MSh.p38 Mg, MSh.o15 Mg, MSh.l15 Mg, MSh.p39 Mg, MSh.o16 Mg, MSh.l16 Mg, MSh.p42 Mg, MSh.o17 Mg, MSh.l17 Mg, MSh.p43 Mg, MSh.o18 Mg, MSh.l18 Mg, MSh.p44 Mg, MSh.o19 Mg, MSh.l19 Mg, MSh.p45 Mg, MSh.o20 Mg, MSh.l20 Mg, MSh.p46 Mg, MSh.o21 Mg, MSh.l21 Mg, MSh.p47 Mg, MSh.o22 Mg, MSh.l22 Mg, MSh.p50 Mg, MSh.o23 Mg, MSh.l23 Mg, MSh.p51 Mg, MSh.o24 Mg, MSh.l24 Mg, MSh.p52 Mg, MSh.o25 Mg, MSh.l25 Mg, fd0, fd1, fd2, fd3, fd4, fd5, fd6, fd7, fd8, fd9, fd10, fd11, fd12, fd13, fd14, fd15, fd16, fd17, fd18, fd19, fd20, fd21, fd22, fd23, fd24, fd25, fd26, fd27, fd28, fd29, fd30, fd31, fd32, fd33, fd34, fd35, fd36, fd37, fd38, fd39, fd40, fd41, fd42, fd43, fd44, fd45, fd46, fd47, fd48, fd49, fd50, fd51, fd52, c27, -Int.reduceToNat, -Int32.reduceToNatClampNeg, il0, il1, il2, il3, il4, il5, il6, il7, il8, il9, il10, il11, il12, il13, il14, il15, il16, il17, il18, il19, il20, il21, il22, il23, il24, il25, il26, il27, il28, il29, il30, il31, il32, il35, il36, il38, il40, il42, il43, il44, il45, il46, il47, il48, il49, il50, il51, il52, il57, il59, il60, il63, il64, il75, il80, il95, il96, il97, il98, il99, il100, il120, il122, il123, il127, il128, il135, il167, il175, il225, il249, il250, il255, il256, il360, il370, il384, il600, il700, il740, il900, il940, il1024, il1600, il4800, il64000, il125000, il262143, il1000000000, iI_toInt, iI_add, iI_sub, iI_mul, iI_neg, iI_lt, iI_le, iI_eq, iI_n, iI_in, iI_div, iI_mod, iI_shm, iI_and1, iI_and7, iI_and63, iI_shr3, iI_shr6, rd_I, ob, Option.some.injEq, exists_eq_left', exists_eq_left, true_and, and_true, fqI, fqJ, eq_self, true_or, or_true, bP_0, bP_0i, npP, bP_1i, bP_b, not_true_eq_false, not_false_eq_true, false_implies, true_implies, implies_true, Classical.not_not, and_self]
      refine ⟨fun _ => ?_, fun z => by omega⟩
      refine KS g' A c eR c0 c6 ((Fh.mono (by simp) (by simp) (by simp)).trans ((f9.mono (by simp) (by simp) (by simp)).trans (F.mono (by simp) (by simp) (by simp)))) ⟨fun j hj => by rw [row]; exact (lgT u).1 j hj, by rw [row]; exact (lgT u).2⟩ (by rw [row]; exact h15) (by rw [I2 249 (by omega), r9, updT_s]) (fun k k0 k1 => I1 k k0 k1) fun j hj => ?_
      by_cases z : j < 250
      · rw [I2 j (Or.inl z), r9, updT_n (by omega), row94]
      · rw [I2 j (by omega), r9, updT_n (by omega), row94]
end MPL
