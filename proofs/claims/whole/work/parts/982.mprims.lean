/-! the model reads words, numbers, rafts, cells -/
def RSV (h : AH) : Prop := ∀ i : Int, 0 ≤ i → i < 18 → aJ h 98 i.toNat = Int64.ofInt (w8 (kmL.getD i.toNat []))
theorem i10 : ¬ iI 1 = iI 0 := by decide
theorem lgc2 (a b : Int64) : (lg_cmp a b = iI 0) = (a = b) := by
  unfold lg_cmp
  by_cases c : a > b
  · rw [if_pos c]
    refine propext ⟨fun q => absurd q (by decide), fun q => ?_⟩
    subst q
    exact absurd c (by rw [gt_iff_lt, Int64.lt_iff_toInt_lt]; omega)
  · rw [if_neg c]
    by_cases e : a = b
    · rw [if_pos e]
      exact propext ⟨fun _ => e, fun _ => rfl⟩
    · rw [if_neg e]
      exact propext ⟨fun q => absurd q (by decide), fun q => absurd q e⟩
/-- what a LINE's reading changes in the model -/
def mF (h h' : AH) : Prop := Fr [92, 95, 99, 100] [92, 97] [] h h' ∧ (∀ j, j < 4 ∨ (5 ≤ j ∧ j ≤ 10) ∨ j = 17 ∨ j = 21 ∨ 24 ≤ j → rd h' 92 j = rd h 92 j) ∧ (∀ j : Nat, j < 8 → aJ h' 97 j = aJ h 97 j) ∧ ∀ i, 24 ≤ i → rd h' 99 i = rd h 99 i ∧ rd h' 100 i = rd h 100 i
def Flt (h : AH) (R : RT) : Prop := R.1 ≠ 0 ∧ rd h 92 15 = R.1 ∧ rd h 92 16 = R.2.1
def sqB (s : Int → Int) : Int := if s 8 = 0 then 0 else 1
section MPR
variable {h h1 h2 h' h0 g : AH} {postV : AH → Prop} {post : AH → Int32 → Prop} {a b c d r x y n m p q e k i j v w lo hi td qb : Int} {T s : Int → Int} {l : List Int} {N : Int → List Int} {R : RT}
theorem mF.refl (h : AH) : mF h h := ⟨(Fr.refl h).mono (by simp) (by simp) (by simp), fun _ _ => rfl, fun _ _ => rfl, fun _ _ => ⟨rfl, rfl⟩⟩
theorem mF.trans (u : mF h h1) (v : mF h1 h2) : mF h h2 := ⟨u.1.trans v.1, fun j hj => (v.2.1 j hj).trans (u.2.1 j hj), fun j hj => (v.2.2.1 j hj).trans (u.2.2.1 j hj), fun i hi => ⟨(v.2.2.2 i hi).1.trans (u.2.2.2 i hi).1, (v.2.2.2 i hi).2.trans (u.2.2.2 i hi).2⟩⟩
theorem mF.of (F : Fr [92] [92] [] h h') (e : ∀ j, j < 4 ∨ (5 ≤ j ∧ j ≤ 10) ∨ j = 17 ∨ j = 21 ∨ 24 ≤ j → rd h' 92 j = rd h 92 j) : mF h h' :=
  ⟨F.mono (by simp) (by simp) (by simp), e, fun j _ => by rw [F.2.2.2.2.2.1 97 (by simp)], fun i _ => by rw [F.row (show (99 : Nat) ∉ [92] by simp), F.row (show (100 : Nat) ∉ [92] by simp)]; exact ⟨rfl, rfl⟩⟩
theorem pF.mf (u : pF h h') : mF h h' := mF.of u.1 fun j hj => u.2 j (by simp only [List.mem_cons, List.not_mem_nil, or_false]; omega)
theorem mF.one (hi : 4 = i ∨ (11 ≤ i ∧ i ≤ 16) ∨ (18 ≤ i ∧ i ≤ 20) ∨ (22 ≤ i ∧ i ≤ 23)) (F : Fr [92] [] [] h h') (R : rd h' 92 = updT (rd h 92) i v) : mF h h' := mF.of F.i92 fun j hj => by rw [R, updT_n (by omega)]
theorem mF.row95 (F : Fr [95] [] [] h h') : mF h h' :=
  ⟨F.mono (by simp) (by simp) (by simp), fun j _ => by rw [F.row (by simp)], fun j _ => by rw [F.2.2.2.2.2.1 97 (by simp)], fun i _ => by rw [F.row (show (99 : Nat) ∉ [95] by simp), F.row (show (100 : Nat) ∉ [95] by simp)]; exact ⟨rfl, rfl⟩⟩
theorem MTk.to (Q : MTk T n m h p) (F : Gr [95, 96, 99, 100] [97] [] h h') : MTk T n m h' p := by
  obtain ⟨M, tp, tb, s3, s5, s4, s11, s12, w1, w2, w3, hp, hn, hm⟩ := Q
  have e : rd h' 92 = rd h 92 := F.row M.o0.2 (by simp)
  have ej : aJ h' 92 = aJ h 92 := F.jow M.o0.2 (by simp)
  exact ⟨M.gr F, by rw [F.row M.o1.2 (by simp)]; exact tp, tb, by rw [e]; exact s3, by rw [e]; exact s5, by rw [e]; exact s4, by rw [e]; exact s11, by rw [e]; exact s12, by rw [ej]; exact w1, by rw [e]; exact w2, by rw [e]; exact w3, hp, hn, hm⟩
theorem MTk.put (Q : MTk T n m h p) (F : Fr [92] [] [] h h') (R : rd h' 92 = updT (rd h 92) j v) (hj : 18 ≤ j) : MTk T n m h' p := by
  obtain ⟨M, tp, tb, s3, s5, s4, s11, s12, w1, w2, w3, hp, hn, hm⟩ := Q
  have e : ∀ i, i < 18 → rd h' 92 i = rd h 92 i := fun i hi => by rw [R, updT_n (by omega)]
  have ej : aJ h' 92 = aJ h 92 := F.2.2.2.2.2.1 92 (by simp)
  exact ⟨M.gr F.gr, by rw [F.row (by simp)]; exact tp, tb, by rw [e 3 (by omega)]; exact s3, by rw [e 5 (by omega)]; exact s5, by rw [e 4 (by omega)]; exact s4, by rw [e 11 (by omega)]; exact s11, by rw [e 12 (by omega)]; exact s12, by rw [ej]; exact w1, by rw [e 14 (by omega), e 13 (by omega)]; exact w2, by rw [e 14 (by omega)]; exact w3, hp, hn, hm⟩
theorem MTk.kb (Q : MTk T n m h p) : 0 ≤ tkK T n m p ∧ tkK T n m p ≤ 4 := (tk_bd Q.hp Q.hm.1).2.2
theorem MTk.k1 (Q : MTk T n m h p) : rd h 92 11 = 1 ↔ tkK T n m p = 1 := by
  have := Q.kb
  rw [Q.s11]
  unfold mkK
  split
  · split <;> omega
  · split <;> omega
theorem MTk.k2 (Q : MTk T n m h p) : rd h 92 11 = 2 ↔ tkK T n m p = 2 := by
  have := Q.kb
  rw [Q.s11]
  unfold mkK
  split
  · split <;> omega
  · split <;> omega
theorem MTk.k3 (Q : MTk T n m h p) : rd h 92 11 = 3 ↔ tkK T n m p = 3 := by
  have := Q.kb
  rw [Q.s11]
  unfold mkK
  split
  · split <;> omega
  · split <;> omega
theorem MTk.k0 (Q : MTk T n m h p) : rd h 92 11 = 0 ↔ tkK T n m p = 4 ∧ n ≤ m := by
  have := Q.kb
  rw [Q.s11]
  unfold mkK
  split
  · split <;> omega
  · split <;> omega
theorem MTk.bd (Q : MTk T n m h p) : (0 ≤ tkA T n m p ∧ tkA T n m p ≤ n) ∧ (p ≤ tkE T n m p ∧ tkE T n m p ≤ n) := ⟨(tk_bd Q.hp Q.hm.1).1, (tk_bd Q.hp Q.hm.1).2.1⟩
theorem MTk.num (Q : MTk T n m h p) (hk : tkK T n m p = 2) : rd h 92 14 = tkV T n m p ∧ (0 ≤ tkV T n m p ∧ tkV T n m p < 100000000) := ⟨(Q.w2 hk).1, (tkV_ok Q.hp hk).1⟩
theorem MTk.nxt (Q : MTk T n m h p) (hk : 1 ≤ tkK T n m p ∧ tkK T n m p ≤ 3) (kk : ∀ h', nF h h' → MTk T n m h' (tkE T n m p) → postV h') : wp_X12_next h 92 postV := by
  have b := Q.bd
  have hp := Q.hp
  exact m_next ⟨Q.M, Q.tp, Q.tb, Q.s3, Q.s5, Q.s4 (by omega) (by omega), Q.hn, Q.hm⟩ (by omega) kk
/-- a LINE being read: from h0 on, at the TOKEN from p on, so far s and names N told -/
def LX (T : Int → Int) (n m : Int) (h0 h : AH) (p : Int) (s : Int → Int) (N : Int → List Int) (td qb : Int) : Prop := (MTk T n m h p) ∧ (RSV h) ∧ (mF h0 h) ∧ (∀ i, 0 ≤ i → i < 250 → rd h 95 i = s i) ∧ (∀ r, 0 ≤ r → r < s 2 → aJ h 97 (8 + r).toNat = Int64.ofInt (w8 (N r)) ∧ Ltr (N r) ∧ (N r).length ≤ 6) ∧ (rd h 92 22 = td) ∧ (rd h 92 23 = qb) ∧ (rd h 92 15 = 0)
theorem LX.X {T : Int → Int} {n m : Int} {h0 h : AH} {p : Int} {s : Int → Int} {N : Int → List Int} {td qb : Int} (R : LX T n m h0 h p s N td qb) : MTk T n m h p := R.1
theorem LX.rw {T : Int → Int} {n m : Int} {h0 h : AH} {p : Int} {s : Int → Int} {N : Int → List Int} {td qb : Int} (R : LX T n m h0 h p s N td qb) : RSV h := R.2.1
theorem LX.FF {T : Int → Int} {n m : Int} {h0 h : AH} {p : Int} {s : Int → Int} {N : Int → List Int} {td qb : Int} (R : LX T n m h0 h p s N td qb) : mF h0 h := R.2.2.1
theorem LX.hh {T : Int → Int} {n m : Int} {h0 h : AH} {p : Int} {s : Int → Int} {N : Int → List Int} {td qb : Int} (R : LX T n m h0 h p s N td qb) : ∀ i, 0 ≤ i → i < 250 → rd h 95 i = s i := R.2.2.2.1
theorem LX.nm {T : Int → Int} {n m : Int} {h0 h : AH} {p : Int} {s : Int → Int} {N : Int → List Int} {td qb : Int} (R : LX T n m h0 h p s N td qb) : ∀ r, 0 ≤ r → r < s 2 → aJ h 97 (8 + r).toNat = Int64.ofInt (w8 (N r)) ∧ Ltr (N r) ∧ (N r).length ≤ 6 := R.2.2.2.2.1
theorem LX.t2 {T : Int → Int} {n m : Int} {h0 h : AH} {p : Int} {s : Int → Int} {N : Int → List Int} {td qb : Int} (R : LX T n m h0 h p s N td qb) : rd h 92 22 = td := R.2.2.2.2.2.1
theorem LX.sq {T : Int → Int} {n m : Int} {h0 h : AH} {p : Int} {s : Int → Int} {N : Int → List Int} {td qb : Int} (R : LX T n m h0 h p s N td qb) : rd h 92 23 = qb := R.2.2.2.2.2.2.1
theorem LX.ft {T : Int → Int} {n m : Int} {h0 h : AH} {p : Int} {s : Int → Int} {N : Int → List Int} {td qb : Int} (R : LX T n m h0 h p s N td qb) : rd h 92 15 = 0 := R.2.2.2.2.2.2.2
theorem LX.pf (Q : LX T n m h0 h p s N td qb) (u : pS h h') (X : MTk T n m h' q) : LX T n m h0 h' q s N td qb := by
  obtain ⟨X0, rw0, F, hh, nm, t2, sq, ft⟩ := Q
  refine ⟨X, fun i i0 i1 => by rw [u.1.2.2.2.2.2.1 98 (by simp)]; exact rw0 i i0 i1, F.trans u.pf.mf, fun i i0 i1 => by rw [u.1.row (by simp)]; exact hh i i0 i1, fun r r0 r1 => by rw [u.1.2.2.2.2.2.1 97 (by simp)]; exact nm r r0 r1, by rw [u.2 22 (by decide)]; exact t2, by rw [u.2 23 (by decide)]; exact sq, by rw [u.2 15 (by decide)]; exact ft⟩
theorem LX.cp (Q : LX T n m h0 h p s N td qb) (F : Fr [92] [] [] h h') (R : rd h' 92 = updT (rd h 92) j v) (hj : 18 ≤ j ∧ j ≤ 20) : LX T n m h0 h' p s N td qb := by
  obtain ⟨X0, rw0, F0, hh, nm, t2, sq, ft⟩ := Q
  exact ⟨X0.put F R (by omega), fun i i0 i1 => by rw [F.2.2.2.2.2.1 98 (by simp)]; exact rw0 i i0 i1, F0.trans (mF.one (by omega) F R), fun i i0 i1 => by rw [F.row (by simp)]; exact hh i i0 i1, fun r r0 r1 => by rw [F.2.2.2.2.2.1 97 (by simp)]; exact nm r r0 r1, by rw [R, updT_n (by omega)]; exact t2, by rw [R, updT_n (by omega)]; exact sq, by rw [R, updT_n (by omega)]; exact ft⟩
theorem LX.nxt (Q : LX T n m h0 h p s N td qb) (hk : 1 ≤ tkK T n m p ∧ tkK T n m p ≤ 3) (kk : ∀ h', nF h h' → LX T n m h0 h' (tkE T n m p) s N td qb → postV h') : wp_X12_next h 92 postV :=
  Q.X.nxt hk fun h' u X => kk h' u (Q.pf u.ps X)
/-- a store among the lagoon's numbers -/
theorem LX.st (Q : LX T n m h0 h p s N td qb) (hi : 0 ≤ i ∧ i < 250) (i2 : i ≠ 2) (hv : -2147483648 ≤ v ∧ v < 2147483648) (e : h' = hI h 95 i.toNat (iI v)) : LX T n m h0 h' p (updT s i v) N td qb ∧ Fr [95] [] [] h h' := by
  obtain ⟨X0, rw0, F0, hh, nm, t2, sq, ft⟩ := Q
  obtain ⟨F, R⟩ := wI hi.1 hv.1 hv.2 e
  have F' : Gr [95, 96, 99, 100] [97] [] h h' := F.gr.mono (by simp) (by simp) (by simp) (by simp)
  refine ⟨⟨X0.to F', fun i i0 i1 => by rw [F.2.2.2.2.2.1 98 (by simp)]; exact rw0 i i0 i1, F0.trans (mF.row95 F), fun k k0 k1 => ?_, fun r r0 r1 => ?_, by rw [F.row (by simp)]; exact t2, by rw [F.row (by simp)]; exact sq, by rw [F.row (by simp)]; exact ft⟩, F⟩
  · rw [R]
    by_cases c : k = i
    · rw [c, updT_s, updT_s]
    · rw [updT_n c, updT_n c]; exact hh k k0 k1
  · rw [updT_n (fun u => i2 u.symm)] at r1
    rw [F.2.2.2.2.2.1 97 (by simp)]; exact nm r r0 r1
theorem m_bad (M : MSh h) (ha : rd h 92 12 = a) (hk : 1 ≤ k ∧ k ≤ 4) (kk : ∀ h', pF h h' → rd h' 92 15 = k → rd h' 92 16 = a → post h' (iI 0)) : wp_X12_bad h 92 (iI k) post := by
  unfold wp_X12_bad
  simp (disch := omega) only [MSh.o0 M, MSh.p1 M, MSh.o1 M, MSh.l1 M, MSh.p6 M, MSh.o2 M, MSh.l2 M, MSh.p7 M, MSh.o3 M, MSh.l3 M, MSh.p8 M, MSh.o4 M, MSh.l4 M, MSh.p9 M, MSh.o5 M, MSh.l5 M, MSh.p10 M, MSh.o6 M, MSh.l6 M, MSh.p24 M, MSh.o7 M, MSh.l7 M, MSh.p25 M, MSh.o8 M, MSh.l8 M, MSh.p26 M, MSh.o9 M, MSh.l9 M, MSh.p32 M, MSh.o10 M, MSh.l10 M, MSh.p33 M, MSh.o11 M, MSh.l11 M, MSh.p35 M, MSh.o12 M, MSh.l12 M, MSh.p36 M, MSh.o13 M, MSh.l13 M, MSh.p37 M, MSh.o14 M, MSh.l14 M, MSh.p38 M, MSh.o15 M, MSh.l15 M, MSh.p39 M, MSh.o16 M, MSh.l16 M, MSh.p42 M, MSh.o17 M, MSh.l17 M, MSh.p43 M, MSh.o18 M, MSh.l18 M, MSh.p44 M, MSh.o19 M, MSh.l19 M, MSh.p45 M, MSh.o20 M, MSh.l20 M, MSh.p46 M, MSh.o21 M, MSh.l21 M, MSh.p47 M, MSh.o22 M, MSh.l22 M, MSh.p50 M, MSh.o23 M, MSh.l23 M, MSh.p51 M, MSh.o24 M, MSh.l24 M, MSh.p52 M, MSh.o25 M, MSh.l25 M, -Int.reduceToNat, -Int32.reduceToNatClampNeg, il0, il1, il2, il3, il4, il5, il6, il7, il8, il9, il10, il11, il12, il13, il14, il15, il16, il17, il18, il19, il20, il21, il22, il23, il24, il25, il26, il27, il28, il29, il30, il31, il32, il35, il36, il38, il40, il42, il43, il44, il45, il46, il47, il48, il49, il50, il51, il52, il57, il59, il60, il63, il64, il75, il80, il95, il96, il97, il98, il99, il100, il120, il122, il123, il127, il128, il135, il167, il175, il225, il249, il250, il255, il256, il360, il370, il384, il600, il700, il740, il900, il940, il1024, il1600, il4800, il64000, il125000, il262143, il1000000000, iI_toInt, iI_add, iI_sub, iI_mul, iI_neg, iI_lt, iI_le, iI_eq, iI_n, iI_in, iI_div, iI_mod, iI_shm, iI_and1, iI_and7, iI_and63, iI_shr3, iI_shr6, rd_I, ob, Option.some.injEq, exists_eq_left', exists_eq_left, true_and, and_true, fqI, fqJ, eq_self, true_or, or_true, bP_0, bP_0i, npP, bP_1i, bP_b, not_true_eq_false, not_false_eq_true, false_implies, true_implies, implies_true, Classical.not_not, and_self]
  intro g1 e1
  obtain ⟨f1, r1⟩ := wI (i := 15) (by omega) (by omega) (by omega) e1
  have M1 := M.gr f1.gr
  have q12 : rd g1 92 12 = a := by rw [r1, updT_n (by omega), ha]
  simp (disch := omega) only [MSh.o0 M1, MSh.p1 M1, MSh.o1 M1, MSh.l1 M1, MSh.p6 M1, MSh.o2 M1, MSh.l2 M1, MSh.p7 M1, MSh.o3 M1, MSh.l3 M1, MSh.p8 M1, MSh.o4 M1, MSh.l4 M1, MSh.p9 M1, MSh.o5 M1, MSh.l5 M1, MSh.p10 M1, MSh.o6 M1, MSh.l6 M1, MSh.p24 M1, MSh.o7 M1, MSh.l7 M1, MSh.p25 M1, MSh.o8 M1, MSh.l8 M1, MSh.p26 M1, MSh.o9 M1, MSh.l9 M1, MSh.p32 M1, MSh.o10 M1, MSh.l10 M1, MSh.p33 M1, MSh.o11 M1, MSh.l11 M1, MSh.p35 M1, MSh.o12 M1, MSh.l12 M1, MSh.p36 M1, MSh.o13 M1, MSh.l13 M1, MSh.p37 M1, MSh.o14 M1, MSh.l14 M1, MSh.p38 M1, MSh.o15 M1, MSh.l15 M1, MSh.p39 M1, MSh.o16 M1, MSh.l16 M1, MSh.p42 M1, MSh.o17 M1, MSh.l17 M1, MSh.p43 M1, MSh.o18 M1, MSh.l18 M1, MSh.p44 M1, MSh.o19 M1, MSh.l19 M1, MSh.p45 M1, MSh.o20 M1, MSh.l20 M1, MSh.p46 M1, MSh.o21 M1, MSh.l21 M1, MSh.p47 M1, MSh.o22 M1, MSh.l22 M1, MSh.p50 M1, MSh.o23 M1, MSh.l23 M1, MSh.p51 M1, MSh.o24 M1, MSh.l24 M1, MSh.p52 M1, MSh.o25 M1, MSh.l25 M1, fd0, fd1, fd2, fd3, fd4, fd5, fd6, fd7, fd8, fd9, fd10, fd11, fd12, fd13, fd14, fd15, fd16, fd17, fd18, fd19, fd20, fd21, fd22, fd23, fd24, fd25, fd26, fd27, fd28, fd29, fd30, fd31, fd32, fd33, fd34, fd35, fd36, fd37, fd38, fd39, fd40, fd41, fd42, fd43, fd44, fd45, fd46, fd47, fd48, fd49, fd50, fd51, fd52, q12, -Int.reduceToNat, -Int32.reduceToNatClampNeg, il0, il1, il2, il3, il4, il5, il6, il7, il8, il9, il10, il11, il12, il13, il14, il15, il16, il17, il18, il19, il20, il21, il22, il23, il24, il25, il26, il27, il28, il29, il30, il31, il32, il35, il36, il38, il40, il42, il43, il44, il45, il46, il47, il48, il49, il50, il51, il52, il57, il59, il60, il63, il64, il75, il80, il95, il96, il97, il98, il99, il100, il120, il122, il123, il127, il128, il135, il167, il175, il225, il249, il250, il255, il256, il360, il370, il384, il600, il700, il740, il900, il940, il1024, il1600, il4800, il64000, il125000, il262143, il1000000000, iI_toInt, iI_add, iI_sub, iI_mul, iI_neg, iI_lt, iI_le, iI_eq, iI_n, iI_in, iI_div, iI_mod, iI_shm, iI_and1, iI_and7, iI_and63, iI_shr3, iI_shr6, rd_I, ob, Option.some.injEq, exists_eq_left', exists_eq_left, true_and, and_true, fqI, fqJ, eq_self, true_or, or_true, bP_0, bP_0i, npP, bP_1i, bP_b, not_true_eq_false, not_false_eq_true, false_implies, true_implies, implies_true, Classical.not_not, and_self]
  intro g2 e2
  have ab := rd_bd h 92 12
  rw [ha] at ab
  obtain ⟨f2, r2⟩ := wI (i := 16) (by omega) ab.1 ab.2 e2
  exact kk g2 ((pF.one (by omega) f1 r1).trans (pF.one (by omega) f2 r2)) (by rw [r2, updT_n (by omega), r1, updT_s]) (by rw [r2, updT_s])
theorem LX.bad (Q : LX T n m h0 h p s N td qb) (hk : 1 ≤ k ∧ k ≤ 4) (e : R = bdR k (tkA T n m p)) (KF : ∀ h', mF h0 h' → Flt h' R → post h' (iI 0)) : wp_X12_bad h 92 (iI k) post :=
  m_bad Q.X.M Q.X.s12 hk fun h' u e1 e2 => KF h' (Q.FF.trans u.mf) ⟨by rw [e]; show k ≠ 0; omega, by rw [e, e1]; rfl, by rw [e, e2]; rfl⟩
theorem m_takes (Q : MTk T n m h p) (hlo : -2147483648 ≤ lo ∧ lo < 2147483648) (hhi : -2147483648 ≤ hi ∧ hi < 2147483648) (K0 : ∀ h' k, pF h h' → ((tkK T n m p ≠ 2 ∧ k = 1) ∨ (tkK T n m p = 2 ∧ ¬ (lo ≤ tkV T n m p ∧ tkV T n m p ≤ hi) ∧ k = 2)) → rd h' 92 15 = k → rd h' 92 16 = tkA T n m p → post h' (iI 0)) (K1 : ∀ h', pS h h' → tkK T n m p = 2 → lo ≤ tkV T n m p ∧ tkV T n m p ≤ hi → MTk T n m h' (tkE T n m p) → rd h' 92 18 = tkV T n m p → post h' (iI 1)) : wp_X12_takes h 92 (iI lo) (iI hi) post := by
  have M := Q.M
  have b11 := rd_bd h 92 11
  unfold wp_X12_takes
  simp (disch := omega) only [MSh.o0 M, MSh.p1 M, MSh.o1 M, MSh.l1 M, MSh.p6 M, MSh.o2 M, MSh.l2 M, MSh.p7 M, MSh.o3 M, MSh.l3 M, MSh.p8 M, MSh.o4 M, MSh.l4 M, MSh.p9 M, MSh.o5 M, MSh.l5 M, MSh.p10 M, MSh.o6 M, MSh.l6 M, MSh.p24 M, MSh.o7 M, MSh.l7 M, MSh.p25 M, MSh.o8 M, MSh.l8 M, MSh.p26 M, MSh.o9 M, MSh.l9 M, MSh.p32 M, MSh.o10 M, MSh.l10 M, MSh.p33 M, MSh.o11 M, MSh.l11 M, MSh.p35 M, MSh.o12 M, MSh.l12 M, MSh.p36 M, MSh.o13 M, MSh.l13 M, MSh.p37 M, MSh.o14 M, MSh.l14 M, MSh.p38 M, MSh.o15 M, MSh.l15 M, MSh.p39 M, MSh.o16 M, MSh.l16 M, MSh.p42 M, MSh.o17 M, MSh.l17 M, MSh.p43 M, MSh.o18 M, MSh.l18 M, MSh.p44 M, MSh.o19 M, MSh.l19 M, MSh.p45 M, MSh.o20 M, MSh.l20 M, MSh.p46 M, MSh.o21 M, MSh.l21 M, MSh.p47 M, MSh.o22 M, MSh.l22 M, MSh.p50 M, MSh.o23 M, MSh.l23 M, MSh.p51 M, MSh.o24 M, MSh.l24 M, MSh.p52 M, MSh.o25 M, MSh.l25 M, fd0, fd1, fd2, fd3, fd4, fd5, fd6, fd7, fd8, fd9, fd10, fd11, fd12, fd13, fd14, fd15, fd16, fd17, fd18, fd19, fd20, fd21, fd22, fd23, fd24, fd25, fd26, fd27, fd28, fd29, fd30, fd31, fd32, fd33, fd34, fd35, fd36, fd37, fd38, fd39, fd40, fd41, fd42, fd43, fd44, fd45, fd46, fd47, fd48, fd49, fd50, fd51, fd52, Q.k2, -Int.reduceToNat, -Int32.reduceToNatClampNeg, il0, il1, il2, il3, il4, il5, il6, il7, il8, il9, il10, il11, il12, il13, il14, il15, il16, il17, il18, il19, il20, il21, il22, il23, il24, il25, il26, il27, il28, il29, il30, il31, il32, il35, il36, il38, il40, il42, il43, il44, il45, il46, il47, il48, il49, il50, il51, il52, il57, il59, il60, il63, il64, il75, il80, il95, il96, il97, il98, il99, il100, il120, il122, il123, il127, il128, il135, il167, il175, il225, il249, il250, il255, il256, il360, il370, il384, il600, il700, il740, il900, il940, il1024, il1600, il4800, il64000, il125000, il262143, il1000000000, iI_toInt, iI_add, iI_sub, iI_mul, iI_neg, iI_lt, iI_le, iI_eq, iI_n, iI_in, iI_div, iI_mod, iI_shm, iI_and1, iI_and7, iI_and63, iI_shr3, iI_shr6, rd_I, ob, Option.some.injEq, exists_eq_left', exists_eq_left, true_and, and_true, fqI, fqJ, eq_self, true_or, or_true, bP_0, bP_0i, npP, bP_1i, bP_b, not_true_eq_false, not_false_eq_true, false_implies, true_implies, implies_true, Classical.not_not, and_self]
  refine ⟨fun c => ?_, fun c => ?_⟩
  · obtain ⟨nv, nb⟩ := Q.num c
    rw [nv, m_isIn (by omega) (by omega) (by omega) (by omega) (by omega) (by omega)]
    simp (disch := omega) only [MSh.o0 M, MSh.p1 M, MSh.o1 M, MSh.l1 M, MSh.p6 M, MSh.o2 M, MSh.l2 M, MSh.p7 M, MSh.o3 M, MSh.l3 M, MSh.p8 M, MSh.o4 M, MSh.l4 M, MSh.p9 M, MSh.o5 M, MSh.l5 M, MSh.p10 M, MSh.o6 M, MSh.l6 M, MSh.p24 M, MSh.o7 M, MSh.l7 M, MSh.p25 M, MSh.o8 M, MSh.l8 M, MSh.p26 M, MSh.o9 M, MSh.l9 M, MSh.p32 M, MSh.o10 M, MSh.l10 M, MSh.p33 M, MSh.o11 M, MSh.l11 M, MSh.p35 M, MSh.o12 M, MSh.l12 M, MSh.p36 M, MSh.o13 M, MSh.l13 M, MSh.p37 M, MSh.o14 M, MSh.l14 M, MSh.p38 M, MSh.o15 M, MSh.l15 M, MSh.p39 M, MSh.o16 M, MSh.l16 M, MSh.p42 M, MSh.o17 M, MSh.l17 M, MSh.p43 M, MSh.o18 M, MSh.l18 M, MSh.p44 M, MSh.o19 M, MSh.l19 M, MSh.p45 M, MSh.o20 M, MSh.l20 M, MSh.p46 M, MSh.o21 M, MSh.l21 M, MSh.p47 M, MSh.o22 M, MSh.l22 M, MSh.p50 M, MSh.o23 M, MSh.l23 M, MSh.p51 M, MSh.o24 M, MSh.l24 M, MSh.p52 M, MSh.o25 M, MSh.l25 M, fd0, fd1, fd2, fd3, fd4, fd5, fd6, fd7, fd8, fd9, fd10, fd11, fd12, fd13, fd14, fd15, fd16, fd17, fd18, fd19, fd20, fd21, fd22, fd23, fd24, fd25, fd26, fd27, fd28, fd29, fd30, fd31, fd32, fd33, fd34, fd35, fd36, fd37, fd38, fd39, fd40, fd41, fd42, fd43, fd44, fd45, fd46, fd47, fd48, fd49, fd50, fd51, fd52, nv, -Int.reduceToNat, -Int32.reduceToNatClampNeg, il0, il1, il2, il3, il4, il5, il6, il7, il8, il9, il10, il11, il12, il13, il14, il15, il16, il17, il18, il19, il20, il21, il22, il23, il24, il25, il26, il27, il28, il29, il30, il31, il32, il35, il36, il38, il40, il42, il43, il44, il45, il46, il47, il48, il49, il50, il51, il52, il57, il59, il60, il63, il64, il75, il80, il95, il96, il97, il98, il99, il100, il120, il122, il123, il127, il128, il135, il167, il175, il225, il249, il250, il255, il256, il360, il370, il384, il600, il700, il740, il900, il940, il1024, il1600, il4800, il64000, il125000, il262143, il1000000000, iI_toInt, iI_add, iI_sub, iI_mul, iI_neg, iI_lt, iI_le, iI_eq, iI_n, iI_in, iI_div, iI_mod, iI_shm, iI_and1, iI_and7, iI_and63, iI_shr3, iI_shr6, rd_I, ob, Option.some.injEq, exists_eq_left', exists_eq_left, true_and, and_true, fqI, fqJ, eq_self, true_or, or_true, bP_0, bP_0i, npP, bP_1i, bP_b, not_true_eq_false, not_false_eq_true, false_implies, true_implies, implies_true, Classical.not_not, and_self]
    refine ⟨fun u => ?_, fun u => ?_⟩
    · intro g1 e1
      obtain ⟨f1, r1⟩ := wI (i := 18) (by omega) (by omega) (by omega) e1
      have Q1 := Q.put f1 r1 (by omega)
      refine ⟨Q1.M.o0, Q1.nxt (by omega) fun g2 u2 X2 => ?_⟩
      exact K1 g2 ((pS.one (by omega) f1 r1).trans u2.ps) c u X2 (by rw [u2.2 18 (by omega) (by omega) (by omega) (by omega) (by omega), r1, updT_s])
    · exact m_bad M Q.s12 (by omega) fun h' u' e1 e2 => ⟨Or.inl rfl, K0 h' 2 u' (Or.inr ⟨c, u, rfl⟩) e1 e2⟩
  · exact m_bad M Q.s12 (by omega) fun h' u' e1 e2 => ⟨Or.inl rfl, K0 h' 1 u' (Or.inl ⟨c, rfl⟩) e1 e2⟩
end MPR
