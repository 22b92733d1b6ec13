/-! LINES of the class: tide, moor, pole -/
section TID
variable {h h1 h2 h' h0 : AH} {fr tx ci tb : Nat} {postV : AH → Prop} {post : AH → Int32 → Prop} {a b c d r x y n m p f fa q e k i lo hi v w td : Int} {T s : Int → Int} {l : List Int} {N : Int → List Int}
theorem BA.bds (B : BA s td) : (0 ≤ s 0 ∧ s 0 ≤ 8) ∧ (0 ≤ s 1 ∧ s 1 ≤ 8) ∧ (0 ≤ s 2 ∧ s 2 ≤ 8) ∧ (0 ≤ s 3 ∧ s 3 ≤ 6) ∧ (0 ≤ s 4 ∧ s 4 ≤ 8) ∧ (0 ≤ s 5 ∧ s 5 ≤ 10) := by
  obtain ⟨⟨b, b0, b1, b2, b3, b4, b5, _⟩, _⟩ := B.gs
  have e := fun i (i0 : (0 : Int) ≤ i) (i1 : i < 370) => (b i i0 i1).1
  exact ⟨⟨e 0 (by omega) (by omega), b0⟩, ⟨e 1 (by omega) (by omega), b1⟩, ⟨e 2 (by omega) (by omega), b2⟩, ⟨e 3 (by omega) (by omega), b3⟩, ⟨e 4 (by omega) (by omega), b4⟩, ⟨e 5 (by omega) (by omega), b5⟩⟩
theorem RD.bI {j : Nat} (R : RD T n m h 2 2 3 f fa p a) (hj : fr ≤ j ∧ j ≤ fr + 20) (hf : 5 ≤ fr) (F : Fr [j] [] [] h h') : RD T n m h' 2 2 3 f fa p a := by
  obtain ⟨b1, b2, b3, b4⟩ := R.B
  have e2 : rd h' 2 = rd h 2 := F.row (by simp <;> omega)
  exact ⟨F.gr.ob R.o, by rw [F.aPe]; exact R.pp, R.X.fr F (by simp <;> omega), ⟨by rw [F.aPe]; exact b1, F.gr.ob b2, by rw [F.2.2.2.1]; exact b3, fun i i0 i1 => by rw [F.row (by simp <;> omega)]; exact b4 i i0 i1⟩, by rw [e2]; exact R.s2, by rw [e2]; exact R.s3, by rw [e2]; exact R.sf, by rw [e2]; exact R.sa, by rw [e2]; exact R.sp, by rw [e2]; exact R.ss, R.hp, R.ha, R.hn, R.hm, R.ht⟩
theorem RD.b13 (R : RD T n m h 2 2 3 f fa p a) (F : Fr [2] [] [] h h') (e : rd h' 2 = updT (rd h 2) 13 v) : RD T n m h' 2 2 3 f fa p a := by
  obtain ⟨b1, b2, b3, b4⟩ := R.B
  have e2 : ∀ j, j ≠ 13 → rd h' 2 j = rd h 2 j := fun j hj => by rw [e, updT_n hj]
  exact ⟨F.gr.ob R.o, by rw [F.aPe]; exact R.pp, R.X.fr F (by simp), ⟨by rw [F.aPe]; exact b1, F.gr.ob b2, by rw [F.2.2.2.1]; exact b3, fun i i0 i1 => by rw [F.row (by simp)]; exact b4 i i0 i1⟩, by rw [e2 2 (by omega)]; exact R.s2, by rw [e2 3 (by omega)]; exact R.s3, by rw [e2 10 (by omega)]; exact R.sf, by rw [e2 11 (by omega)]; exact R.sa, by rw [e2 4 (by omega)]; exact R.sp, by rw [e2 5 (by omega)]; exact R.ss, R.hp, R.ha, R.hn, R.hm, R.ht⟩
theorem CL.f5 (C : CL h fr s N td) : 5 ≤ fr := by rcases C.fb with e | e <;> omega
theorem tdB_z (k0 : 0 ≤ k) (k1 : k < 32) : (iI td >>> (iI k &&& iI 31)) &&& iI 1 = iI 0 ↔ ¬ tdB td k := by
  unfold tdB
  rw [iI_shm k0 k1]
  exact ⟨fun u q => q u, fun u => Classical.not_not.mp u⟩
theorem NuR.st {ok : Int → Int → RT} {f' fa' p' a' : Int} (R : NuR T n m f fa p lo hi f' fa' p' a' v) : iteP (f = 0) (nuS T n m lo hi p ok) (bdR f fa) = iteP (f' = 0) (ok v p') (bdR f' fa') := by
  unfold nuS
  rcases R with ⟨u1, u2, u3, u4⟩ | ⟨u1, u2, u3, u4, u5⟩ | ⟨u1, u2, u3, u4, u5, u6⟩ | ⟨u1, u2, u3, u4, u5, u6, u7, u8, u9⟩
  · rw [ite_f u1, ite_f (by omega), u2, u3]
  · rw [ite_t u1, ite_f u2, ite_f (by omega), u3, u4]
  · rw [ite_t u1, ite_t u2, ite_f (by omega), ite_f (by omega), u4, u5]
  · rw [ite_t u1, ite_t u2, ite_t ⟨u3, u4⟩, ite_t u5, u7, u9]
theorem NaR.st {ok : List Int → Int → RT} {f' fa' p' a' : Int} (R : NaR T n m f fa p f' fa' p' a' v) : iteP (f = 0) (naS T n m p ok) (bdR f fa) = iteP (f' = 0) (ok (tkW T n m p) p') (bdR f' fa') := by
  unfold naS
  rcases R with ⟨u1, u2, u3⟩ | ⟨u1, u2, u3, u4⟩ | ⟨u1, u2, u3, u4, u5, u6, u7, u8⟩
  · rw [ite_f u1, ite_f (by omega), u2, u3]
  · rw [ite_t u1, ite_f u2, ite_f (by omega), u3, u4]
  · rw [ite_t u1, ite_t ⟨u2, u3⟩, ite_t u4, u6]
theorem RaR.st {ok : Int → Int → RT} {f' fa' p' a' : Int} (R : RaR T n m N c f fa p f' fa' p' a' v) : iteP (f = 0) (raS T n m N c p ok) (bdR f fa) = iteP (f' = 0) (ok v p') (bdR f' fa') := by
  unfold raS naS
  rcases R with ⟨u1, u2, u3, u4⟩ | ⟨u1, u2, u3, u4, u5⟩ | ⟨u1, u2, u3, u4, u5, u6⟩ | ⟨u1, u2, u3, u4, u5, u6, u7, u8⟩
  · rw [ite_f u1, ite_f (by omega), u2, u3]
  · rw [ite_t u1, ite_f u2, ite_f (by omega), u3, u4]
  · rw [ite_t u1, ite_t u2]
    show iteP (fnd N c (tkW T n m p) = -1) _ _ = _
    rw [ite_t u3, ite_f (by omega), u4, u5]
  · rw [ite_t u1, ite_t u2]
    show iteP (fnd N c (tkW T n m p) = -1) _ _ = _
    rw [ite_f u3, ite_t u4, u6, u8]
theorem SiR.st {ok : Int → Int → RT} {f' fa' p' a' : Int} (R : SiR T n m f fa p f' fa' p' a' v) : iteP (f = 0) (siS T n m p ok) (bdR f fa) = iteP (f' = 0) (ok v p') (bdR f' fa') := by
  unfold siS
  rcases R with ⟨u1, u2, u3, u4⟩ | ⟨u1, u2, u3, u4, u5⟩ | ⟨u1, u2, u3, u4, u5, u6, u7, u8, u9⟩
  · rw [ite_f u1, ite_f (by omega), u2, u3]
  · rw [ite_t u1, ite_f u2, ite_f (by omega), u3, u4]
  · rw [ite_t u1, ite_t ⟨u2, u3, u4⟩, ite_t u5, u7, u9]
theorem NuR.ok {f' fa' p' a' : Int} (R : NuR T n m f fa p lo hi f' fa' p' a' v) (hf : f' = 0) : f = 0 ∧ fa' = fa ∧ p' = tkE T n m p ∧ a' = tkA T n m p ∧ lo ≤ v ∧ v ≤ hi := by
  rcases R with u | u | u | u <;> omega
theorem RaR.ok {f' fa' p' a' : Int} (R : RaR T n m N c f fa p f' fa' p' a' v) (hf : f' = 0) (hc : 0 ≤ c) : f = 0 ∧ fa' = fa ∧ p' = tkE T n m p ∧ a' = tkA T n m p ∧ 0 ≤ v ∧ v < c := by
  have := R.rng hc
  rcases R with u | u | u | u <;> omega
theorem SiR.ok {f' fa' p' a' : Int} (R : SiR T n m f fa p f' fa' p' a' v) (hf : f' = 0) : f = 0 ∧ fa' = fa ∧ p' = tkE T n m p ∧ a' = tkA T n m p ∧ 0 ≤ v ∧ v ≤ 3 := by
  rcases R with u | u | u <;> omega
theorem NaR.ok {f' fa' p' a' : Int} (R : NaR T n m f fa p f' fa' p' a' v) (hf : f' = 0) : f = 0 ∧ fa' = fa ∧ p' = tkE T n m p ∧ a' = tkA T n m p ∧ tkK T n m p = 1 ∧ kwI (tkW T n m p) = -1 ∧ v = w5 (tkW T n m p) := by
  rcases R with u | u | u
  · omega
  · omega
  · obtain ⟨u1, u2, u3, u4, u5, u6, u7, u8⟩ := u
    exact ⟨u1, u5, u6, u7, u2, u3, u8⟩
theorem CeR.st {C Rw : Int} {ok : Int → Int → Int → Int → RT} {f' fa' p' a' : Int} (R : CeR T n m C Rw f fa p f' fa' p' a' v) : ∃ x y p1, iteP (f = 0) (ceS T n m C Rw p ok) (bdR f fa) = iteP (f' = 0) (ok x y p1 p') (bdR f' fa') ∧ (v = iteP (f' = 0) (8 * y + x) 0) ∧ (f' = 0 → f = 0 ∧ a' = tkA T n m p1 ∧ (0 ≤ x ∧ x < C) ∧ 0 ≤ y ∧ y < Rw) := by
  obtain ⟨f1, fa1, p1, a1, x, y, R1, R2, hv⟩ := R
  refine ⟨x, y, p1, ?_, hv, fun hf => ?_⟩
  · unfold ceS
    rw [R1.st, R2.st]
  · have u := R2.ok hf
    have u' := R1.ok u.1
    exact ⟨u'.1, u.2.2.2.1, by omega, by omega⟩
/-- a FAULT that is found -/
def FaR (f fa a k f' fa' : Int) : Prop := (f ≠ 0 ∧ f' = f ∧ fa' = fa) ∨ (f = 0 ∧ f' = k ∧ fa' = a)
theorem c_fail (R : RD T n m h tx ci tb f fa p a) (hk : 1 ≤ k ∧ k ≤ 4) (K : ∀ h' f' fa', tfF h h' tx → RD T n m h' tx ci tb f' fa' p a → FaR f fa a k f' fa' → postV h') : wp_X7_fail ci h tx (iI k) postV := by
  by_cases hf : f = 0
  · subst hf
    exact c_fail0 R hk fun h' t R' => K h' k a t R' (Or.inr ⟨rfl, rfl, rfl⟩)
  · exact c_failF R hf (K h f fa (tfF.refl _ _) R (Or.inl ⟨hf, rfl, rfl⟩))
theorem FaR.st {f' fa' : Int} {P : Prop} {X Y : RT} (R : FaR f fa a k f' fa') (hk : 1 ≤ k) (hp : P) : iteP (f = 0) (iteP P (bdR k a) X) (bdR f fa) = iteP (f' = 0) Y (bdR f' fa') := by
  rcases R with ⟨u1, u2, u3⟩ | ⟨u1, u2, u3⟩
  · rw [ite_f u1, ite_f (by omega), u2, u3]
  · rw [ite_t u1, ite_t hp, ite_f (by omega), u2, u3]
theorem FaR.sn {f' fa' : Int} {P : Prop} {X Y : RT} (R : FaR f fa a k f' fa') (hk : 1 ≤ k) (hp : ¬ P) : iteP (f = 0) (iteP P X (bdR k a)) (bdR f fa) = iteP (f' = 0) Y (bdR f' fa') := by
  rcases R with ⟨u1, u2, u3⟩ | ⟨u1, u2, u3⟩
  · rw [ite_f u1, ite_f (by omega), u2, u3]
  · rw [ite_t u1, ite_f hp, ite_f (by omega), u2, u3]
theorem CO.fin (F : Fr (2 :: blk fr) (blk fr) [] h h') (R : RD T n m h' 2 2 3 f fa p a) (C : f = 0 → CL h' fr s N td) : CO T n m fr h h' (iteP (f = 0) (okR s N td p) (bdR f fa)) := by
  by_cases hf : f = 0
  · rw [ite_t hf]; subst hf; exact CO.ok F R (C rfl)
  · rw [ite_f hf]; exact CO.bd F hf R
theorem CO.from (t : Fr (2 :: blk fr) (blk fr) [] h h1) {r : RT} (c : CO T n m fr h1 h' r) : CO T n m fr h h' r := ⟨t.trans c.1, c.2⟩
theorem it_a {X Y Z : RT} {P : Prop} (h : P → X = Y) : iteP P X Z = iteP P Y Z := by
  by_cases c : P
  · rw [ite_t c, ite_t c, h c]
  · rw [ite_f c, ite_f c]
theorem c_tide24 {hr : Int} (R : RD T n m h 2 2 3 f fa p a) (C : CL h fr s N td) (B : BA s td) (h0' : 0 ≤ hr ∧ hr ≤ 23) (K : ∀ h', CO T n m fr h h' (iteP (f = 0) (nuS T n m 0 9 p fun v q' => okR (updT s (75 + hr) v) N (tdU td hr) q') (bdR f fa)) → postV h') : wb_X2_readTide_24 h 2 (iI hr) postV := by
  unfold wb_X2_readTide_24
  refine ⟨R.o, ?_⟩
  rw [show (0 : Int32) = iI 0 from rfl, show (9 : Int32) = iI 9 from rfl]
  refine c_readNumber R (by omega) (by omega) fun g f1 fa1 p1 a1 v t Rg NR => ?_
  rw [NR.st] at K
  have Og := Rg.o
  have b := rd_bd g 2 10
  have sf := Rg.sf
  have Cg := C.tf t
  have vr := NR.rng
  by_cases cf : f1 = 0
  · have e13 : rd g 2 13 = td := Cg.tt
    simp (disch := omega) only [Og, fd0, fd1, fd2, fd3, fd4, fd5, fd6, fd7, fd8, fd9, fd10, fd11, fd12, fd13, fd14, fd15, fd16, fd17, fd18, fd19, fd20, fd21, fd22, fd23, fd24, fd25, fd26, fd27, fd28, fd29, fd30, fd31, fd32, fd33, fd34, fd35, fd36, fd37, fd38, fd39, fd40, fd41, fd42, fd43, fd44, fd45, fd46, fd47, fd48, fd49, fd50, fd51, fd52, sf, cf, e13, -Int.reduceToNat, -Int32.reduceToNatClampNeg, il0, il1, il2, il3, il4, il5, il6, il7, il8, il9, il10, il11, il12, il13, il14, il15, il16, il17, il18, il19, il20, il21, il22, il23, il24, il25, il26, il27, il28, il29, il30, il31, il32, il35, il36, il38, il40, il42, il43, il44, il45, il46, il47, il48, il49, il50, il51, il52, il57, il59, il60, il63, il64, il75, il80, il95, il96, il97, il98, il99, il100, il120, il122, il123, il127, il128, il135, il167, il175, il225, il249, il250, il255, il256, il360, il370, il384, il600, il700, il740, il900, il940, il1024, il1600, il4800, il64000, il125000, il262143, il1000000000, iI_toInt, iI_add, iI_sub, iI_mul, iI_neg, iI_lt, iI_le, iI_eq, iI_n, iI_in, iI_div, iI_mod, iI_shm, iI_and1, iI_and7, iI_and63, iI_shr3, iI_shr6, rd_I, ob, Option.some.injEq, exists_eq_left', exists_eq_left, true_and, and_true, fqI, fqJ, eq_self, true_or, or_true, bP_0, bP_0i, npP, bP_1i, bP_b, not_true_eq_false, not_false_eq_true, false_implies, true_implies, implies_true, Classical.not_not, and_self, cP, cP', ite_n, ite_t]
    intro g1 e1
    have e1' : g1 = hI g 2 13 (iI (tdU td hr)) := by unfold tdU; rw [iI_of]; exact e1
    have tub : -2147483648 ≤ tdU td hr ∧ tdU td hr < 2147483648 := ⟨Int32.le_toInt _, Int32.toInt_lt _⟩
    obtain ⟨f1', r1⟩ := wI (i := 13) (by omega) tub.1 tub.2 e1'
    have O1 := f1'.gr.ob Og
    have H1 : LB g1 fr := LB.same f1'.1 f1'.2.2.1 f1'.2.2.2.1 f1'.aPe Cg.H
    have p12 : aP g1 2 12 = some fr := by rw [f1'.aPe]; exact Cg.ft
    simp (disch := omega) only [O1, p12, LB.o0 H1, LB.p4 H1, LB.o3 H1, LB.l3 H1, -Int.reduceToNat, -Int32.reduceToNatClampNeg, il0, il1, il2, il3, il4, il5, il6, il7, il8, il9, il10, il11, il12, il13, il14, il15, il16, il17, il18, il19, il20, il21, il22, il23, il24, il25, il26, il27, il28, il29, il30, il31, il32, il35, il36, il38, il40, il42, il43, il44, il45, il46, il47, il48, il49, il50, il51, il52, il57, il59, il60, il63, il64, il75, il80, il95, il96, il97, il98, il99, il100, il120, il122, il123, il127, il128, il135, il167, il175, il225, il249, il250, il255, il256, il360, il370, il384, il600, il700, il740, il900, il940, il1024, il1600, il4800, il64000, il125000, il262143, il1000000000, iI_toInt, iI_add, iI_sub, iI_mul, iI_neg, iI_lt, iI_le, iI_eq, iI_n, iI_in, iI_div, iI_mod, iI_shm, iI_and1, iI_and7, iI_and63, iI_shr3, iI_shr6, rd_I, ob, Option.some.injEq, exists_eq_left', exists_eq_left, true_and, and_true, fqI, fqJ, eq_self, true_or, or_true, bP_0, bP_0i, npP, bP_1i, bP_b, not_true_eq_false, not_false_eq_true, false_implies, true_implies, implies_true, Classical.not_not, and_self]
    intro g2 e2
    obtain ⟨f2, r2⟩ := wI (i := hr) (by omega) (by omega) (by omega) e2
    have hfr := Cg.f5
    have R2 := (Rg.b13 f1' r1).bI (fr := fr) (j := fr + 3) (by omega) hfr f2
    refine K g2 (CO.fin (t.b2.trans (f1'.b2.trans (f2.bI (by omega)))) R2 fun _ => ?_)
    obtain ⟨H, L, M, st, ft, tt, fb⟩ := Cg
    have row : ∀ j, j ≤ 20 ∧ j ≠ 3 → rd g2 (fr + j) = rd g (fr + j) := fun j hj => by rw [f2.row (by simp <;> omega), f1'.row (by simp <;> omega)]
    have E0 : ∀ j, (j : Int) = j → rd g2 fr j = rd g fr j := fun j _ => by rw [show fr = fr + 0 from rfl, row 0 (by omega)]
    have E10 : ∀ j, (j : Int) = j → rd g2 (fr + 10) j = rd g (fr + 10) j := fun j _ => by rw [row 10 (by omega)]
    have E16 : ∀ j, (j : Int) = j → rd g2 (fr + 16) j = rd g (fr + 16) j := fun j _ => by rw [row 16 (by omega)]
    have jow : ∀ j, j ≤ 20 → aJ g2 (fr + j) = aJ g (fr + j) := fun j _ => by rw [f2.2.2.2.2.2.1 _ (by simp), f1'.2.2.2.2.2.1 _ (by simp)]
    have jow0 : ∀ j : Nat, j ≤ 20 → aJ g2 fr j = aJ g fr j := fun j _ => by rw [show fr = fr + 0 from rfl, jow 0 (by omega)]
    have es : ∀ i, i ≠ 75 + hr → updT s (75 + hr) v i = s i := fun i hi => updT_n hi
    obtain ⟨bb0, bb1, bb2, bb3, bb4, bb5⟩ := B.bds
    exact ⟨LB.same f2.1 f2.2.2.1 f2.2.2.2.1 f2.aPe H1, ⟨(by rw [E0 0 (by omega), es 0 (by omega)]; exact L.c0), (by rw [E0 1 (by omega), es 1 (by omega)]; exact L.c1), (by rw [E0 5 (by omega), es 2 (by omega)]; exact L.c5), (by rw [E0 11 (by omega), es 3 (by omega)]; exact L.c11), (by rw [E10 0 (by omega), es 4 (by omega)]; exact L.q0), (by rw [E16 0 (by omega), es 5 (by omega)]; exact L.w0), (fun x y x0 x1 y0 y1 => by rw [es 0 (by omega)] at x1; rw [es 1 (by omega)] at y1; rw [row 1 (by omega), es _ (by omega)]; exact L.gr x y x0 x1 y0 y1), (fun g x y g0 g1 x0 x1 y0 y1 => by rw [es 0 (by omega), es 1 (by omega), es (11 + 8 * y + x) (by omega), jow 2 (by omega)]; exact L.up g x y g0 g1 x0 x1 y0 y1), (fun i i0 i1 => by rw [r2, f1'.row (by simp <;> omega)]; by_cases ci : i = hr; { rw [ci, updT_s, updT_s] }; { rw [updT_n ci, updT_n (by omega)]; exact L.td i i0 i1 }), (fun r r0 r1 => by rw [es 2 (by omega)] at r1; rw [row 5 (by omega), es _ (by omega)]; exact L.wi r r0 r1), (fun r r0 r1 => by rw [es 2 (by omega)] at r1; rw [row 6 (by omega), es _ (by omega)]; exact L.hi r r0 r1), (fun r r0 r1 => by rw [es 2 (by omega)] at r1; rw [row 7 (by omega), es _ (by omega)]; exact L.dr r r0 r1), (fun r r0 r1 => by rw [es 3 (by omega)] at r1; rw [row 9 (by omega), es _ (by omega), es _ (by omega)]; exact L.po r r0 r1), (fun r r0 r1 => by rw [es 4 (by omega)] at r1; rw [row 11 (by omega), es _ (by omega)]; exact L.ro r r0 r1), (fun r r0 r1 => by rw [es 4 (by omega)] at r1; rw [row 12 (by omega), es _ (by omega)]; exact L.rp r r0 r1), (fun r r0 r1 => by rw [es 4 (by omega)] at r1; rw [row 13 (by omega), es _ (by omega)]; exact L.rq r r0 r1), (fun r r0 r1 => by rw [es 4 (by omega)] at r1; rw [row 14 (by omega), es _ (by omega)]; exact L.rh r r0 r1), (fun r r0 r1 => by rw [row 15 (by omega), es _ (by omega)]; exact L.mo r r0 r1), (fun r r0 r1 => by rw [es 5 (by omega)] at r1; rw [row 17 (by omega), es _ (by omega)]; exact L.wk r r0 r1), (fun r r0 r1 => by rw [es 5 (by omega)] at r1; rw [row 18 (by omega), es _ (by omega)]; exact L.wh r r0 r1), (fun r r0 r1 => by rw [es 5 (by omega)] at r1; rw [row 19 (by omega), es (175 + 5 * r) (by omega), es (175 + 5 * r + 3) (by omega), es (175 + 5 * r + 2) (by omega)]; exact L.wt r r0 r1), (fun r r0 r1 => by rw [es 5 (by omega)] at r1; rw [row 20 (by omega), es _ (by omega)]; exact L.ww r r0 r1), (fun x y x0 x1 y0 y1 => by rw [es 6 (by omega), es 7 (by omega), es 8 (by omega), es 9 (by omega), ← L.sq x y x0 x1 y0 y1, jow0 13 (by omega)])⟩, fun r r0 r1 => by rw [es 2 (by omega)] at r1; rw [row 4 (by omega)]; exact M r r0 r1, fun r r0 r1 => by rw [es 2 (by omega)] at r1; rw [row 8 (by omega), es _ (by omega), es _ (by omega)]; exact st r r0 r1, by rw [f2.aPe]; exact p12, by rw [f2.row (by simp <;> omega), r1, updT_s], fb⟩
  · simp (disch := omega) only [Og, fd0, fd1, fd2, fd3, fd4, fd5, fd6, fd7, fd8, fd9, fd10, fd11, fd12, fd13, fd14, fd15, fd16, fd17, fd18, fd19, fd20, fd21, fd22, fd23, fd24, fd25, fd26, fd27, fd28, fd29, fd30, fd31, fd32, fd33, fd34, fd35, fd36, fd37, fd38, fd39, fd40, fd41, fd42, fd43, fd44, fd45, fd46, fd47, fd48, fd49, fd50, fd51, fd52, sf, -Int.reduceToNat, -Int32.reduceToNatClampNeg, il0, il1, il2, il3, il4, il5, il6, il7, il8, il9, il10, il11, il12, il13, il14, il15, il16, il17, il18, il19, il20, il21, il22, il23, il24, il25, il26, il27, il28, il29, il30, il31, il32, il35, il36, il38, il40, il42, il43, il44, il45, il46, il47, il48, il49, il50, il51, il52, il57, il59, il60, il63, il64, il75, il80, il95, il96, il97, il98, il99, il100, il120, il122, il123, il127, il128, il135, il167, il175, il225, il249, il250, il255, il256, il360, il370, il384, il600, il700, il740, il900, il940, il1024, il1600, il4800, il64000, il125000, il262143, il1000000000, iI_toInt, iI_add, iI_sub, iI_mul, iI_neg, iI_lt, iI_le, iI_eq, iI_n, iI_in, iI_div, iI_mod, iI_shm, iI_and1, iI_and7, iI_and63, iI_shr3, iI_shr6, rd_I, ob, Option.some.injEq, exists_eq_left', exists_eq_left, true_and, and_true, fqI, fqJ, eq_self, true_or, or_true, bP_0, bP_0i, npP, bP_1i, bP_b, not_true_eq_false, not_false_eq_true, false_implies, true_implies, implies_true, Classical.not_not, and_self, cP, cP', ite_n, ite_f]
    exact K g (CO.fin t.b2 Rg fun z => absurd z cf)
theorem c_tide (R : RD T n m h 2 2 3 0 fa p a) (C : CL h fr s N td) (B : BA s td) (K : ∀ h', CO T n m fr h h' (sTide T n m s N td p) → postV h') : wp_X2_readTide h 2 postV := by
  rw [show sTide T n m s N td p = iteP ((0 : Int) = 0) (sTide T n m s N td p) (bdR 0 fa) by rw [ite_t rfl]] at K
  unfold wp_X2_readTide sTide at *
  refine ⟨R.o, ?_⟩
  rw [show (0 : Int32) = iI 0 from rfl, show (23 : Int32) = iI 23 from rfl]
  refine c_readNumber R (by omega) (by omega) fun g f1 fa1 p1 a1 hr t Rg NR => ?_
  rw [NR.st] at K
  have Og := Rg.o
  have Cg := C.tf t
  have hb := NR.rng
  have hok := NR.ok
  have e13 : rd g 2 13 = td := Cg.tt
  have tdz := tdB_z (td := td) (k := hr) (by omega) (by omega)
  have ee : (aI g 2 13 >>> (iI hr &&& 31)) &&& 1 = iI 0 ↔ ¬ tdB td hr := by
    rw [← tdz, ← e13, ← rd_I g 2 (show (0 : Int) ≤ 13 by omega)]
    exact Iff.rfl
  refine ⟨Og, fun z => ?_, fun z => ⟨Og, ?_⟩⟩
  · have z := ee.mp z
    refine c_tide24 Rg Cg B (by omega) fun h' co => K h' (CO.from t.b2 ?_)
    rw [it_a fun _ => ite_f z]
    exact co
  · have z : tdB td hr := Classical.not_not.mp fun q => z (ee.mpr q)
    rw [show (3 : Int32) = iI 3 from rfl]
    refine c_fail Rg (by omega) fun g2 f2 fa2 t2 R2 FR => c_tide24 R2 (Cg.tf t2) B (by omega) fun h' co => K h' (CO.from (t.b2.trans t2.b2) ?_)
    have e : iteP (f1 = 0) (iteP (tdB td hr) (bdR 3 (tkA T n m p)) (nuS T n m 0 9 p1 fun v q' => okR (updT s (75 + hr) v) N (tdU td hr) q')) (bdR f1 fa1) = iteP (f1 = 0) (iteP (tdB td hr) (bdR 3 a1) (bdR 0 0)) (bdR f1 fa1) := it_a fun u => by rw [ite_t z, ite_t z, (hok u).2.2.2.1]
    rw [e, FR.st (by omega) z]
    exact co
end TID
