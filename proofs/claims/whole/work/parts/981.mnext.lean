/-! the model's next TOKEN -/
section MNX
variable {h h1 h2 h' h0 g : AH} {postV : AH → Prop} {post : AH → Int32 → Prop} {a b c d r x y n m p q e k i j v w : Int} {T : Int → Int}
theorem z_bv (h1 : 0 ≤ a) : (Int64.ofInt a).toBitVec = BitVec.ofNat 64 a.toNat := by
  have e : Int64.ofInt a = Int64.ofNat a.toNat := by
    have := Int64.ofInt_eq_ofNat (n := a.toNat)
    rw [Int.toNat_of_nonneg h1] at this
    exact this
  rw [e]; rfl
theorem z_of (h1 : -2147483648 ≤ c) (h2 : c < 2147483648) : (iI c).toInt64 = Int64.ofInt c := by
  apply Int64.toInt_inj.mp
  rw [Int32.toInt_toInt64, iI_toInt h1 h2, Int64.toInt_ofInt_of_le (by omega) (by omega)]
theorem z_shl8 (h1 : 0 ≤ a) (h2 : a < 1099511627776) (h3 : 0 ≤ c) (h4 : c < 256) : (Int64.ofInt a) <<< ((iI 8).toInt64 &&& 63) ||| (iI c).toInt64 = Int64.ofInt (256 * a + c) := by
  rw [z_of (c := c) (by omega) (by omega)]
  apply Int64.toBitVec_inj.mp
  rw [Int64.toBitVec_or]
  have e5 : (Int64.ofInt a <<< ((iI 8).toInt64 &&& 63)).toBitVec = (Int64.ofInt a).toBitVec <<< 8 := by
    show (Int64.ofInt a).toBitVec <<< (((iI 8).toInt64 &&& 63).toBitVec.smod 64) = _
    rw [BitVec.shiftLeft_eq']
    congr 1
  rw [e5, z_bv h1, z_bv h3, z_bv (by omega)]
  apply BitVec.eq_of_toNat_eq
  have e : a.toNat <<< 8 = a.toNat * 256 := by rw [Nat.shiftLeft_eq]
  have ha : a.toNat % 2 ^ 64 = a.toNat := Nat.mod_eq_of_lt (by omega)
  have hb : c.toNat % 2 ^ 64 = c.toNat := Nat.mod_eq_of_lt (by omega)
  have hc : (256 * a + c).toNat % 2 ^ 64 = (256 * a + c).toNat := Nat.mod_eq_of_lt (by omega)
  have hs : (a.toNat <<< 8) % 2 ^ 64 = a.toNat <<< 8 := Nat.mod_eq_of_lt (by rw [e]; omega)
  rw [BitVec.toNat_or, BitVec.toNat_shiftLeft, BitVec.toNat_ofNat, BitVec.toNat_ofNat, BitVec.toNat_ofNat, ha, hs, hb, hc, ← Nat.shiftLeft_add_eq_or_of_lt (show c.toNat < 2 ^ 8 by omega), e]
  omega
theorem wI' {X : Int32} {a : Nat} (hi : 0 ≤ i) (e : h2 = hI h a i.toNat X) : Fr [a] [] [] h h2 ∧ rd h2 a = updT (rd h a) i X.toInt :=
  wI hi (Int32.le_toInt X) (Int32.toInt_lt X) (by rw [iI_of]; exact e)
theorem m_isSmall (hc : -1 ≤ c ∧ c ≤ 255) : wp_X12_isSmall h (iI c) post ↔ post h (bP (ltC c)) := by
  unfold wp_X12_isSmall ltC
  simp (disch := omega) only [-Int.reduceToNat, -Int32.reduceToNatClampNeg, il0, il1, il2, il3, il4, il5, il6, il7, il8, il9, il10, il11, il12, il13, il14, il15, il16, il17, il18, il19, il20, il21, il22, il23, il24, il25, il26, il27, il28, il29, il30, il31, il32, il35, il36, il38, il40, il42, il43, il44, il45, il46, il47, il48, il49, il50, il51, il52, il57, il59, il60, il63, il64, il75, il80, il95, il96, il97, il98, il99, il100, il120, il122, il123, il127, il128, il135, il167, il175, il225, il249, il250, il255, il256, il360, il370, il384, il600, il700, il740, il900, il940, il1024, il1600, il4800, il64000, il125000, il262143, il1000000000, iI_toInt, iI_add, iI_sub, iI_mul, iI_neg, iI_lt, iI_le, iI_eq, iI_n, iI_in, iI_div, iI_mod, iI_shm, iI_and1, iI_and7, iI_and63, iI_shr3, iI_shr6, rd_I, ob, Option.some.injEq, exists_eq_left', exists_eq_left, true_and, and_true, forall_eq, forall_eq_apply_imp_iff, eq_self, true_or, or_true, bP_0, bP_0i, npP, bP_1i, bP_b, not_true_eq_false, not_false_eq_true, false_implies, true_implies, implies_true, Classical.not_not, and_self, cI post h, cI' post h]
  refine iff_of_eq (congrArg (post h) ?_)
  (try simp only [iteP])
  (repeat' split) <;> first | rfl | (exfalso; omega) | exact (bP_t (by (try simp only [onT, insT, ovX, ovY, overT, besT]); omega)).symm | exact (bP_f (by (try simp only [onT, insT, ovX, ovY, overT, besT]); omega)).symm | exact bP_c (by (try simp only [onT, insT, ovX, ovY, overT, besT]); omega) | (congr 1; omega)
theorem m_isDigit (hc : -1 ≤ c ∧ c ≤ 255) : wp_X12_isDigit h (iI c) post ↔ post h (bP (dgC c)) := by
  unfold wp_X12_isDigit dgC
  simp (disch := omega) only [-Int.reduceToNat, -Int32.reduceToNatClampNeg, il0, il1, il2, il3, il4, il5, il6, il7, il8, il9, il10, il11, il12, il13, il14, il15, il16, il17, il18, il19, il20, il21, il22, il23, il24, il25, il26, il27, il28, il29, il30, il31, il32, il35, il36, il38, il40, il42, il43, il44, il45, il46, il47, il48, il49, il50, il51, il52, il57, il59, il60, il63, il64, il75, il80, il95, il96, il97, il98, il99, il100, il120, il122, il123, il127, il128, il135, il167, il175, il225, il249, il250, il255, il256, il360, il370, il384, il600, il700, il740, il900, il940, il1024, il1600, il4800, il64000, il125000, il262143, il1000000000, iI_toInt, iI_add, iI_sub, iI_mul, iI_neg, iI_lt, iI_le, iI_eq, iI_n, iI_in, iI_div, iI_mod, iI_shm, iI_and1, iI_and7, iI_and63, iI_shr3, iI_shr6, rd_I, ob, Option.some.injEq, exists_eq_left', exists_eq_left, true_and, and_true, forall_eq, forall_eq_apply_imp_iff, eq_self, true_or, or_true, bP_0, bP_0i, npP, bP_1i, bP_b, not_true_eq_false, not_false_eq_true, false_implies, true_implies, implies_true, Classical.not_not, and_self, cI post h, cI' post h]
  refine iff_of_eq (congrArg (post h) ?_)
  (try simp only [iteP])
  (repeat' split) <;> first | rfl | (exfalso; omega) | exact (bP_t (by (try simp only [onT, insT, ovX, ovY, overT, besT]); omega)).symm | exact (bP_f (by (try simp only [onT, insT, ovX, ovY, overT, besT]); omega)).symm | exact bP_c (by (try simp only [onT, insT, ovX, ovY, overT, besT]); omega) | (congr 1; omega)
theorem pk_bb : -1 ≤ pk T n i ∧ pk T n i ≤ 255 := by unfold pk; split <;> omega
theorem pk_lc (hb : -128 ≤ T p ∧ T p ≤ 127) : ltC (pk T n p) ↔ p < n ∧ ltC (T p) := by
  unfold pk ltC
  by_cases c : n ≤ p
  · rw [if_pos c]; omega
  · rw [if_neg c]; omega
theorem pk_dc (hb : -128 ≤ T p ∧ T p ≤ 127) : dgC (pk T n p) ↔ p < n ∧ dgC (T p) := by
  unfold pk dgC
  by_cases c : n ≤ p
  · rw [if_pos c]; omega
  · rw [if_neg c]; omega
theorem sk_in (hp : 0 ≤ p ∧ p ≤ n) (hq : skM T n p < mnZ n m) : skT T n m p = skM T n p := by
  obtain ⟨⟨s1, s2⟩, s3, s4⟩ := skM_spec (T := T) hp.2
  have hm : mnZ n m ≤ n := by unfold mnZ; split <;> omega
  unfold skT
  exact fz_at _ _ _ s1 (by omega) (fun j j1 j2 u => u (s3 j j1 j2)) (fun _ => s4 (by omega))
theorem sk_out (hp : 0 ≤ p ∧ p ≤ n) (hq : mnZ n m ≤ skM T n p) : mnZ n m ≤ skT T n m p := by
  obtain ⟨⟨s1, s2⟩, s3, s4⟩ := skM_spec (T := T) hp.2
  obtain ⟨⟨t1, t2⟩, t3, t4⟩ := skT_spec (T := T) (m := m) hp
  by_cases c : mnZ n m ≤ skT T n m p
  · exact c
  · exact absurd (s3 _ t1 (by omega)) (t4 (by omega))
theorem MK.putJ (K : MK T n m h p) (F : Fr [] [92] [] h h') : MK T n m h' p := by
  obtain ⟨M, tp, tb, s3, s5, s4, hn, hm⟩ := K
  exact ⟨M.gr F.gr, by rw [F.row (by simp)]; exact tp, tb, by rw [F.row (by simp)]; exact s3, by rw [F.row (by simp)]; exact s5, by rw [F.row (by simp)]; exact s4, hn, hm⟩
theorem Fr.i92 (F : Fr [92] [] [] h h') : Fr [92] [92] [] h h' := F.mono (by simp) (by simp) (by simp)
theorem Fr.j92 (F : Fr [] [92] [] h h') : Fr [92] [92] [] h h' := F.mono (by simp) (by simp) (by simp)
/-- what a TOKEN's reading changes in the model -/
def pF (h h' : AH) : Prop := Fr [92] [92] [] h h' ∧ ∀ j, j ∉ [(4 : Int), 11, 12, 13, 14, 15, 16, 18] → rd h' 92 j = rd h 92 j
def pS (h h' : AH) : Prop := Fr [92] [92] [] h h' ∧ ∀ j, j ∉ [(4 : Int), 11, 12, 13, 14, 18] → rd h' 92 j = rd h 92 j
theorem pS.trans (u : pS h h1) (v : pS h1 h2) : pS h h2 := ⟨u.1.trans v.1, fun j hj => (v.2 j hj).trans (u.2 j hj)⟩
theorem pS.pf (u : pS h h') : pF h h' := ⟨u.1, fun j hj => u.2 j fun q => hj (by simp only [List.mem_cons, List.not_mem_nil, or_false] at q ⊢; omega)⟩
theorem pS.one (hi : i = 4 ∨ (11 ≤ i ∧ i ≤ 14) ∨ i = 18) (F : Fr [92] [] [] h h') (R : rd h' 92 = updT (rd h 92) i v) : pS h h' := ⟨F.i92, fun j hj => by
  rw [R, updT_n]
  intro u
  subst u
  apply hj
  simp only [List.mem_cons, List.not_mem_nil, or_false]
  omega⟩
theorem pF.trans (u : pF h h1) (v : pF h1 h2) : pF h h2 := ⟨u.1.trans v.1, fun j hj => (v.2 j hj).trans (u.2 j hj)⟩
theorem pF.refl (h : AH) : pF h h := ⟨(Fr.refl h).mono (by simp) (by simp) (by simp), fun _ _ => rfl⟩
theorem pF.one (hi : i = 4 ∨ (11 ≤ i ∧ i ≤ 16) ∨ i = 18) (F : Fr [92] [] [] h h') (R : rd h' 92 = updT (rd h 92) i v) : pF h h' := ⟨F.i92, fun j hj => by
  rw [R, updT_n]
  intro u
  subst u
  apply hj
  simp only [List.mem_cons, List.not_mem_nil, or_false]
  omega⟩
def nF (h h' : AH) : Prop := Fr [92] [92] [] h h' ∧ ∀ j, j ≠ 4 → j ≠ 11 → j ≠ 12 → j ≠ 13 → j ≠ 14 → rd h' 92 j = rd h 92 j
theorem nF.ps (u : nF h h') : pS h h' := ⟨u.1, fun j hj => by
  simp only [List.mem_cons, List.not_mem_nil, or_false] at hj
  exact u.2 j (by omega) (by omega) (by omega) (by omega) (by omega)⟩
def RMI (T : Int → Int) (n m : Int) (h0 h : AH) (q i : Int) : Prop := (MK T n m h i) ∧ (Fr [92] [92] [] h0 h) ∧ (∀ j, j ≠ 4 → j ≠ 13 → j ≠ 14 → rd h 92 j = rd h0 92 j) ∧ (rd h 92 13 = i - q) ∧ (i - q ≤ 8 → allI dgC T q i → rd h 92 14 = rnV T q i) ∧ (i - q ≤ 6 → allI ltC T q i → aJ h 92 17 = Int64.ofInt (w8 (rnW T q i))) ∧ (0 ≤ q ∧ q ≤ i)
theorem RMI.KK {T : Int → Int} {n m : Int} {h0 h : AH} {q i : Int} (R : RMI T n m h0 h q i) : MK T n m h i := R.1
theorem RMI.FF {T : Int → Int} {n m : Int} {h0 h : AH} {q i : Int} (R : RMI T n m h0 h q i) : Fr [92] [92] [] h0 h := R.2.1
theorem RMI.rest {T : Int → Int} {n m : Int} {h0 h : AH} {q i : Int} (R : RMI T n m h0 h q i) : ∀ j, j ≠ 4 → j ≠ 13 → j ≠ 14 → rd h 92 j = rd h0 92 j := R.2.2.1
theorem RMI.s13 {T : Int → Int} {n m : Int} {h0 h : AH} {q i : Int} (R : RMI T n m h0 h q i) : rd h 92 13 = i - q := R.2.2.2.1
theorem RMI.nv {T : Int → Int} {n m : Int} {h0 h : AH} {q i : Int} (R : RMI T n m h0 h q i) : i - q ≤ 8 → allI dgC T q i → rd h 92 14 = rnV T q i := R.2.2.2.2.1
theorem RMI.nw {T : Int → Int} {n m : Int} {h0 h : AH} {q i : Int} (R : RMI T n m h0 h q i) : i - q ≤ 6 → allI ltC T q i → aJ h 92 17 = Int64.ofInt (w8 (rnW T q i)) := R.2.2.2.2.2.1
theorem RMI.qi {T : Int → Int} {n m : Int} {h0 h : AH} {q i : Int} (R : RMI T n m h0 h q i) : 0 ≤ q ∧ q ≤ i := R.2.2.2.2.2.2
theorem m_run1 {K157 : AH → Nat → Int32 → Int32 → Prop} {X2 X3 : Int32} (R : RMI T n m h0 h q i) (hi : i < n) (al : alC (T i)) (kk : ∀ h', RMI T n m h0 h' q (i + 1) → K157 h' 92 X2 X3) : wb_X12_next_197 K157 h 92 X2 X3 postV := by
  have hn := R.KK.hn
  have qi := R.qi
  have alb : 48 ≤ T i ∧ T i ≤ 122 := by unfold alC ltC dgC at al; omega
  have pke : pk T n i = T i := by unfold pk; rw [if_neg (by omega)]; omega
  have s3 : ∀ g, MK T n m g i → Fr [92] [92] [] h0 g → (∀ j, j ≠ 4 → j ≠ 13 → j ≠ 14 → rd g 92 j = rd h0 92 j) → rd g 92 13 = i - q → (i + 1 - q ≤ 8 → allI dgC T q (i + 1) → rd g 92 14 = rnV T q (i + 1)) → (i + 1 - q ≤ 6 → allI ltC T q (i + 1) → aJ g 92 17 = Int64.ofInt (w8 (rnW T q (i + 1)))) → wb_X12_next_252 K157 g 92 X2 X3 postV := by
    intro g G F rs s13 nv nw
    have M := G.M
    have g4 := G.s4
    unfold wb_X12_next_252
    simp (disch := omega) only [MSh.o0 M, MSh.p1 M, MSh.o1 M, MSh.l1 M, MSh.p6 M, MSh.o2 M, MSh.l2 M, MSh.p7 M, MSh.o3 M, MSh.l3 M, MSh.p8 M, MSh.o4 M, MSh.l4 M, MSh.p9 M, MSh.o5 M, MSh.l5 M, MSh.p10 M, MSh.o6 M, MSh.l6 M, MSh.p24 M, MSh.o7 M, MSh.l7 M, MSh.p25 M, MSh.o8 M, MSh.l8 M, MSh.p26 M, MSh.o9 M, MSh.l9 M, MSh.p32 M, MSh.o10 M, MSh.l10 M, MSh.p33 M, MSh.o11 M, MSh.l11 M, MSh.p35 M, MSh.o12 M, MSh.l12 M, MSh.p36 M, MSh.o13 M, MSh.l13 M, MSh.p37 M, MSh.o14 M, MSh.l14 M, MSh.p38 M, MSh.o15 M, MSh.l15 M, MSh.p39 M, MSh.o16 M, MSh.l16 M, MSh.p42 M, MSh.o17 M, MSh.l17 M, MSh.p43 M, MSh.o18 M, MSh.l18 M, MSh.p44 M, MSh.o19 M, MSh.l19 M, MSh.p45 M, MSh.o20 M, MSh.l20 M, MSh.p46 M, MSh.o21 M, MSh.l21 M, MSh.p47 M, MSh.o22 M, MSh.l22 M, MSh.p50 M, MSh.o23 M, MSh.l23 M, MSh.p51 M, MSh.o24 M, MSh.l24 M, MSh.p52 M, MSh.o25 M, MSh.l25 M, fd0, fd1, fd2, fd3, fd4, fd5, fd6, fd7, fd8, fd9, fd10, fd11, fd12, fd13, fd14, fd15, fd16, fd17, fd18, fd19, fd20, fd21, fd22, fd23, fd24, fd25, fd26, fd27, fd28, fd29, fd30, fd31, fd32, fd33, fd34, fd35, fd36, fd37, fd38, fd39, fd40, fd41, fd42, fd43, fd44, fd45, fd46, fd47, fd48, fd49, fd50, fd51, fd52, s13, -Int.reduceToNat, -Int32.reduceToNatClampNeg, il0, il1, il2, il3, il4, il5, il6, il7, il8, il9, il10, il11, il12, il13, il14, il15, il16, il17, il18, il19, il20, il21, il22, il23, il24, il25, il26, il27, il28, il29, il30, il31, il32, il35, il36, il38, il40, il42, il43, il44, il45, il46, il47, il48, il49, il50, il51, il52, il57, il59, il60, il63, il64, il75, il80, il95, il96, il97, il98, il99, il100, il120, il122, il123, il127, il128, il135, il167, il175, il225, il249, il250, il255, il256, il360, il370, il384, il600, il700, il740, il900, il940, il1024, il1600, il4800, il64000, il125000, il262143, il1000000000, iI_toInt, iI_add, iI_sub, iI_mul, iI_neg, iI_lt, iI_le, iI_eq, iI_n, iI_in, iI_div, iI_mod, iI_shm, iI_and1, iI_and7, iI_and63, iI_shr3, iI_shr6, rd_I, ob, Option.some.injEq, exists_eq_left', exists_eq_left, true_and, and_true, fqI, fqJ, eq_self, true_or, or_true, bP_0, bP_0i, npP, bP_1i, bP_b, not_true_eq_false, not_false_eq_true, false_implies, true_implies, implies_true, Classical.not_not, and_self]
    intro g1 e1
    obtain ⟨f1, r1⟩ := wI (i := 13) (by omega) (by omega) (by omega) e1
    have G1 := G.put f1 r1 (by omega)
    have q4 : rd g1 92 4 = i := by rw [r1, updT_n (by omega), g4]
    have M1 := G1.M
    simp (disch := omega) only [MSh.o0 M1, MSh.p1 M1, MSh.o1 M1, MSh.l1 M1, MSh.p6 M1, MSh.o2 M1, MSh.l2 M1, MSh.p7 M1, MSh.o3 M1, MSh.l3 M1, MSh.p8 M1, MSh.o4 M1, MSh.l4 M1, MSh.p9 M1, MSh.o5 M1, MSh.l5 M1, MSh.p10 M1, MSh.o6 M1, MSh.l6 M1, MSh.p24 M1, MSh.o7 M1, MSh.l7 M1, MSh.p25 M1, MSh.o8 M1, MSh.l8 M1, MSh.p26 M1, MSh.o9 M1, MSh.l9 M1, MSh.p32 M1, MSh.o10 M1, MSh.l10 M1, MSh.p33 M1, MSh.o11 M1, MSh.l11 M1, MSh.p35 M1, MSh.o12 M1, MSh.l12 M1, MSh.p36 M1, MSh.o13 M1, MSh.l13 M1, MSh.p37 M1, MSh.o14 M1, MSh.l14 M1, MSh.p38 M1, MSh.o15 M1, MSh.l15 M1, MSh.p39 M1, MSh.o16 M1, MSh.l16 M1, MSh.p42 M1, MSh.o17 M1, MSh.l17 M1, MSh.p43 M1, MSh.o18 M1, MSh.l18 M1, MSh.p44 M1, MSh.o19 M1, MSh.l19 M1, MSh.p45 M1, MSh.o20 M1, MSh.l20 M1, MSh.p46 M1, MSh.o21 M1, MSh.l21 M1, MSh.p47 M1, MSh.o22 M1, MSh.l22 M1, MSh.p50 M1, MSh.o23 M1, MSh.l23 M1, MSh.p51 M1, MSh.o24 M1, MSh.l24 M1, MSh.p52 M1, MSh.o25 M1, MSh.l25 M1, fd0, fd1, fd2, fd3, fd4, fd5, fd6, fd7, fd8, fd9, fd10, fd11, fd12, fd13, fd14, fd15, fd16, fd17, fd18, fd19, fd20, fd21, fd22, fd23, fd24, fd25, fd26, fd27, fd28, fd29, fd30, fd31, fd32, fd33, fd34, fd35, fd36, fd37, fd38, fd39, fd40, fd41, fd42, fd43, fd44, fd45, fd46, fd47, fd48, fd49, fd50, fd51, fd52, q4, -Int.reduceToNat, -Int32.reduceToNatClampNeg, il0, il1, il2, il3, il4, il5, il6, il7, il8, il9, il10, il11, il12, il13, il14, il15, il16, il17, il18, il19, il20, il21, il22, il23, il24, il25, il26, il27, il28, il29, il30, il31, il32, il35, il36, il38, il40, il42, il43, il44, il45, il46, il47, il48, il49, il50, il51, il52, il57, il59, il60, il63, il64, il75, il80, il95, il96, il97, il98, il99, il100, il120, il122, il123, il127, il128, il135, il167, il175, il225, il249, il250, il255, il256, il360, il370, il384, il600, il700, il740, il900, il940, il1024, il1600, il4800, il64000, il125000, il262143, il1000000000, iI_toInt, iI_add, iI_sub, iI_mul, iI_neg, iI_lt, iI_le, iI_eq, iI_n, iI_in, iI_div, iI_mod, iI_shm, iI_and1, iI_and7, iI_and63, iI_shr3, iI_shr6, rd_I, ob, Option.some.injEq, exists_eq_left', exists_eq_left, true_and, and_true, fqI, fqJ, eq_self, true_or, or_true, bP_0, bP_0i, npP, bP_1i, bP_b, not_true_eq_false, not_false_eq_true, false_implies, true_implies, implies_true, Classical.not_not, and_self]
    intro g2 e2
    obtain ⟨f2, r2⟩ := wI (i := 4) (by omega) (by omega) (by omega) e2
    have G2 := G1.put f2 r2 (by omega)
    rw [show rd g2 92 4 = i + 1 by rw [r2, updT_s]] at G2
    have f12 := f1.trans f2
    refine kk g2 ⟨G2, F.trans f12.i92, fun j j1 j2 j3 => ?_, ?_, fun u1 u2 => ?_, fun u1 u2 => ?_, by omega⟩
    · rw [r2, updT_n j1, r1, updT_n j2]; exact rs j j1 j2 j3
    · rw [r2, updT_n (by omega), r1, updT_s]; omega
    · rw [r2, updT_n (by omega), r1, updT_n (by omega)]; exact nv u1 u2
    · rw [f12.2.2.2.2.2.1 92 (by simp)]; exact nw u1 u2
  have s2 : ∀ g, MK T n m g i → Fr [92] [92] [] h0 g → (∀ j, j ≠ 4 → j ≠ 13 → j ≠ 14 → rd g 92 j = rd h0 92 j) → rd g 92 13 = i - q → (i - q ≤ 8 → allI dgC T q i → rd g 92 14 = rnV T q i) → (i + 1 - q ≤ 6 → allI ltC T q (i + 1) → aJ g 92 17 = Int64.ofInt (w8 (rnW T q (i + 1)))) → wb_X12_next_224 K157 g 92 X2 X3 postV := by
    intro g G F rs s13 nv nw
    have M := G.M
    unfold wb_X12_next_224
    simp (disch := omega) only [MSh.o0 M, MSh.p1 M, MSh.o1 M, MSh.l1 M, MSh.p6 M, MSh.o2 M, MSh.l2 M, MSh.p7 M, MSh.o3 M, MSh.l3 M, MSh.p8 M, MSh.o4 M, MSh.l4 M, MSh.p9 M, MSh.o5 M, MSh.l5 M, MSh.p10 M, MSh.o6 M, MSh.l6 M, MSh.p24 M, MSh.o7 M, MSh.l7 M, MSh.p25 M, MSh.o8 M, MSh.l8 M, MSh.p26 M, MSh.o9 M, MSh.l9 M, MSh.p32 M, MSh.o10 M, MSh.l10 M, MSh.p33 M, MSh.o11 M, MSh.l11 M, MSh.p35 M, MSh.o12 M, MSh.l12 M, MSh.p36 M, MSh.o13 M, MSh.l13 M, MSh.p37 M, MSh.o14 M, MSh.l14 M, MSh.p38 M, MSh.o15 M, MSh.l15 M, MSh.p39 M, MSh.o16 M, MSh.l16 M, MSh.p42 M, MSh.o17 M, MSh.l17 M, MSh.p43 M, MSh.o18 M, MSh.l18 M, MSh.p44 M, MSh.o19 M, MSh.l19 M, MSh.p45 M, MSh.o20 M, MSh.l20 M, MSh.p46 M, MSh.o21 M, MSh.l21 M, MSh.p47 M, MSh.o22 M, MSh.l22 M, MSh.p50 M, MSh.o23 M, MSh.l23 M, MSh.p51 M, MSh.o24 M, MSh.l24 M, MSh.p52 M, MSh.o25 M, MSh.l25 M, m_peek G (by omega) (by omega), fd0, fd1, fd2, fd3, fd4, fd5, fd6, fd7, fd8, fd9, fd10, fd11, fd12, fd13, fd14, fd15, fd16, fd17, fd18, fd19, fd20, fd21, fd22, fd23, fd24, fd25, fd26, fd27, fd28, fd29, fd30, fd31, fd32, fd33, fd34, fd35, fd36, fd37, fd38, fd39, fd40, fd41, fd42, fd43, fd44, fd45, fd46, fd47, fd48, fd49, fd50, fd51, fd52, s13, pke, -Int.reduceToNat, -Int32.reduceToNatClampNeg, il0, il1, il2, il3, il4, il5, il6, il7, il8, il9, il10, il11, il12, il13, il14, il15, il16, il17, il18, il19, il20, il21, il22, il23, il24, il25, il26, il27, il28, il29, il30, il31, il32, il35, il36, il38, il40, il42, il43, il44, il45, il46, il47, il48, il49, il50, il51, il52, il57, il59, il60, il63, il64, il75, il80, il95, il96, il97, il98, il99, il100, il120, il122, il123, il127, il128, il135, il167, il175, il225, il249, il250, il255, il256, il360, il370, il384, il600, il700, il740, il900, il940, il1024, il1600, il4800, il64000, il125000, il262143, il1000000000, iI_toInt, iI_add, iI_sub, iI_mul, iI_neg, iI_lt, iI_le, iI_eq, iI_n, iI_in, iI_div, iI_mod, iI_shm, iI_and1, iI_and7, iI_and63, iI_shr3, iI_shr6, rd_I, ob, Option.some.injEq, exists_eq_left', exists_eq_left, true_and, and_true, fqI, fqJ, eq_self, true_or, or_true, bP_0, bP_0i, npP, bP_1i, bP_b, not_true_eq_false, not_false_eq_true, false_implies, true_implies, implies_true, Classical.not_not, and_self, cP, cP', ite_n]
    by_cases c8 : 8 ≤ i - q
    · rw [ite_t c8]; exact s3 g G F rs s13 (fun u => by omega) nw
    · rw [ite_f c8]
      intro g1 e1
      obtain ⟨f1, r1⟩ := wI' (i := 14) (by omega) e1
      have G1 := G.put f1 r1 (by omega)
      rw [show rd g1 92 4 = i by rw [r1, updT_n (by omega)]; exact G.s4] at G1
      refine s3 g1 G1 (F.trans f1.i92) (fun j j1 j2 j3 => by rw [r1, updT_n j3]; exact rs j j1 j2 j3) (by rw [r1, updT_n (by omega)]; exact s13) (fun u1 u2 => ?_) (fun u1 u2 => by rw [f1.2.2.2.2.2.1 92 (by simp)]; exact nw u1 u2)
      have di : allI dgC T q i := fun j j1 j2 => u2 j j1 (by omega)
      have bd := rnV_bd (T := T) (q := q) (i - q).toNat (by rw [show q + ((i - q).toNat : Int) = i by omega]; exact di)
      rw [show q + ((i - q).toNat : Int) = i by omega] at bd
      have bnd := p10_8 (k := (i - q).toNat) (by omega)
      rw [r1, updT_s, nv (by omega) di, rnV_s (by omega), iI_toInt (by omega) (by omega)]
      omega
  have G := R.KK
  have M := G.M
  have s13 := R.s13
  unfold wb_X12_next_197
  simp (disch := omega) only [MSh.o0 M, MSh.p1 M, MSh.o1 M, MSh.l1 M, MSh.p6 M, MSh.o2 M, MSh.l2 M, MSh.p7 M, MSh.o3 M, MSh.l3 M, MSh.p8 M, MSh.o4 M, MSh.l4 M, MSh.p9 M, MSh.o5 M, MSh.l5 M, MSh.p10 M, MSh.o6 M, MSh.l6 M, MSh.p24 M, MSh.o7 M, MSh.l7 M, MSh.p25 M, MSh.o8 M, MSh.l8 M, MSh.p26 M, MSh.o9 M, MSh.l9 M, MSh.p32 M, MSh.o10 M, MSh.l10 M, MSh.p33 M, MSh.o11 M, MSh.l11 M, MSh.p35 M, MSh.o12 M, MSh.l12 M, MSh.p36 M, MSh.o13 M, MSh.l13 M, MSh.p37 M, MSh.o14 M, MSh.l14 M, MSh.p38 M, MSh.o15 M, MSh.l15 M, MSh.p39 M, MSh.o16 M, MSh.l16 M, MSh.p42 M, MSh.o17 M, MSh.l17 M, MSh.p43 M, MSh.o18 M, MSh.l18 M, MSh.p44 M, MSh.o19 M, MSh.l19 M, MSh.p45 M, MSh.o20 M, MSh.l20 M, MSh.p46 M, MSh.o21 M, MSh.l21 M, MSh.p47 M, MSh.o22 M, MSh.l22 M, MSh.p50 M, MSh.o23 M, MSh.l23 M, MSh.p51 M, MSh.o24 M, MSh.l24 M, MSh.p52 M, MSh.o25 M, MSh.l25 M, m_peek G (by omega) (by omega), fd0, fd1, fd2, fd3, fd4, fd5, fd6, fd7, fd8, fd9, fd10, fd11, fd12, fd13, fd14, fd15, fd16, fd17, fd18, fd19, fd20, fd21, fd22, fd23, fd24, fd25, fd26, fd27, fd28, fd29, fd30, fd31, fd32, fd33, fd34, fd35, fd36, fd37, fd38, fd39, fd40, fd41, fd42, fd43, fd44, fd45, fd46, fd47, fd48, fd49, fd50, fd51, fd52, s13, pke, -Int.reduceToNat, -Int32.reduceToNatClampNeg, il0, il1, il2, il3, il4, il5, il6, il7, il8, il9, il10, il11, il12, il13, il14, il15, il16, il17, il18, il19, il20, il21, il22, il23, il24, il25, il26, il27, il28, il29, il30, il31, il32, il35, il36, il38, il40, il42, il43, il44, il45, il46, il47, il48, il49, il50, il51, il52, il57, il59, il60, il63, il64, il75, il80, il95, il96, il97, il98, il99, il100, il120, il122, il123, il127, il128, il135, il167, il175, il225, il249, il250, il255, il256, il360, il370, il384, il600, il700, il740, il900, il940, il1024, il1600, il4800, il64000, il125000, il262143, il1000000000, iI_toInt, iI_add, iI_sub, iI_mul, iI_neg, iI_lt, iI_le, iI_eq, iI_n, iI_in, iI_div, iI_mod, iI_shm, iI_and1, iI_and7, iI_and63, iI_shr3, iI_shr6, rd_I, ob, Option.some.injEq, exists_eq_left', exists_eq_left, true_and, and_true, fqI, fqJ, eq_self, true_or, or_true, bP_0, bP_0i, npP, bP_1i, bP_b, not_true_eq_false, not_false_eq_true, false_implies, true_implies, implies_true, Classical.not_not, and_self, cP, cP', ite_n]
  by_cases c6 : 6 ≤ i - q
  · rw [ite_t c6]; exact s2 h G R.FF R.rest s13 R.nv (fun u => by omega)
  · rw [ite_f c6]
    intro g1 e1
    have f1 : Fr [] [92] [] h g1 := by rw [e1]; exact fr_hJ
    refine s2 g1 (G.putJ f1) (R.FF.trans f1.j92) (fun j j1 j2 j3 => by rw [f1.row (by simp)]; exact R.rest j j1 j2 j3) (by rw [f1.row (by simp)]; exact s13) (fun u1 u2 => by rw [f1.row (by simp)]; exact R.nv u1 u2) (fun u1 u2 => ?_)
    have di : allI ltC T q i := fun j j1 j2 => u2 j j1 (by omega)
    have lt := rnW_lt (T := T) (q := q) (i - q).toNat (by rw [show q + ((i - q).toNat : Int) = i by omega]; exact di)
    rw [show q + ((i - q).toNat : Int) = i by omega] at lt
    have len := rnW_l (T := T) (q := q) (e := i) (by omega)
    have bd := w8_bd _ lt
    have bnd : p256 (rnW T q i).length ≤ 1099511627776 := by
      have : (rnW T q i).length ≤ 5 := by omega
      have H : ∀ k : Nat, k ≤ 5 → p256 k ≤ 1099511627776 := by decide
      exact H _ this
    rw [e1, aJ_hJ, if_pos rfl, R.nw (by omega) di, z_shl8 (by omega) (by omega) (by omega) (by omega), rnW_s (by omega)]
    rfl
def mkR (k : Int) : Int := if k = 0 then 4 else k
theorem m_runs (hq : ltC (T q) ∨ dgC (T q)) (hqn : q < n) (kk : ∀ h', Fr [92] [92] [] h0 h' → MK T n m h' (rnE T n q) → (∀ j, j ≠ 4 → j ≠ 11 → j ≠ 13 → j ≠ 14 → rd h' 92 j = rd h0 92 j) → rd h' 92 11 = mkR (rnK T q (rnE T n q)) → (rnK T q (rnE T n q) = 1 → aJ h' 92 17 = Int64.ofInt (w8 (rnW T q (rnE T n q)))) → (rnK T q (rnE T n q) = 2 → rd h' 92 14 = rnV T q (rnE T n q) ∧ rd h' 92 13 = rnE T n q - q) → postV h') :
    ∀ (dd : Nat) (g : AH) (i : Int), i + dd = rnE T n q → RMI T n m h0 g q i → wl_X12_next_157 postV (dd + 1) g 92 (bP (ltC (T q))) (bP (∀ j, q ≤ j → j < i → (ltC (T j) ↔ ltC (T q)))) := by
  obtain ⟨⟨s1, s2⟩, s3, s4⟩ := rnE_spec (T := T) (n := n) (q := q) (by omega)
  have sgt : q < rnE T n q := by
    by_cases c : q < rnE T n q
    · exact c
    · have e : rnE T n q = q := by omega
      rw [e] at s4
      exact absurd hq (s4 hqn)
  generalize he : rnE T n q = e at s1 s2 s3 s4 sgt kk
  intro dd
  induction dd with
  | zero =>
    intro g i hi R
    have ei : i = e := by omega
    subst ei
    show wb_X12_next_157 (wl_X12_next_157 postV 0) g 92 _ _ postV
    have G := R.KK
    have M := G.M
    have hn := G.hn
    have qi := R.qi
    have s13 := R.s13
    have n1 : ¬ ltC (pk T n i) := fun u => s4 ((pk_lc (G.tb i)).mp u).1 (Or.inl ((pk_lc (G.tb i)).mp u).2)
    have n2 : ¬ dgC (pk T n i) := fun u => s4 ((pk_dc (G.tb i)).mp u).1 (Or.inr ((pk_dc (G.tb i)).mp u).2)
    have fin : ∀ kd : Int, 1 ≤ kd ∧ kd ≤ 4 → kd = mkR (rnK T q i) → ∀ g1, g1 = hI g 92 11 (iI kd) → postV g1 := by
      intro kd kb ke g1 e1
      obtain ⟨f1, r1⟩ := wI (i := 11) (by omega) (by omega) (by omega) e1
      have G1 := G.put f1 r1 (by omega)
      rw [show rd g1 92 4 = i by rw [r1, updT_n (by omega)]; exact G.s4] at G1
      refine kk g1 (R.FF.trans f1.i92) G1 (fun j j1 j2 j3 j4 => by rw [r1, updT_n j2]; exact R.rest j j1 j3 j4) (by rw [r1, updT_s, ke]) (fun u => ?_) (fun u => ?_)
      · rcases rnK_cases (T := T) (q := q) (e := i) with z | z | z
        · omega
        · rw [f1.2.2.2.2.2.1 92 (by simp)]; exact R.nw (by omega) z.2.2.1
        · omega
      · rcases rnK_cases (T := T) (q := q) (e := i) with z | z | z
        · omega
        · omega
        · rw [r1, updT_n (by omega), updT_n (by omega)]; exact ⟨R.nv (by omega) z.2.2.1, s13⟩
    unfold wb_X12_next_157 wb_X12_next_298 wb_X12_next_295 wb_X12_next_298 wb_X12_next_311
    simp (disch := omega) only [MSh.o0 M, MSh.p1 M, MSh.o1 M, MSh.l1 M, MSh.p6 M, MSh.o2 M, MSh.l2 M, MSh.p7 M, MSh.o3 M, MSh.l3 M, MSh.p8 M, MSh.o4 M, MSh.l4 M, MSh.p9 M, MSh.o5 M, MSh.l5 M, MSh.p10 M, MSh.o6 M, MSh.l6 M, MSh.p24 M, MSh.o7 M, MSh.l7 M, MSh.p25 M, MSh.o8 M, MSh.l8 M, MSh.p26 M, MSh.o9 M, MSh.l9 M, MSh.p32 M, MSh.o10 M, MSh.l10 M, MSh.p33 M, MSh.o11 M, MSh.l11 M, MSh.p35 M, MSh.o12 M, MSh.l12 M, MSh.p36 M, MSh.o13 M, MSh.l13 M, MSh.p37 M, MSh.o14 M, MSh.l14 M, MSh.p38 M, MSh.o15 M, MSh.l15 M, MSh.p39 M, MSh.o16 M, MSh.l16 M, MSh.p42 M, MSh.o17 M, MSh.l17 M, MSh.p43 M, MSh.o18 M, MSh.l18 M, MSh.p44 M, MSh.o19 M, MSh.l19 M, MSh.p45 M, MSh.o20 M, MSh.l20 M, MSh.p46 M, MSh.o21 M, MSh.l21 M, MSh.p47 M, MSh.o22 M, MSh.l22 M, MSh.p50 M, MSh.o23 M, MSh.l23 M, MSh.p51 M, MSh.o24 M, MSh.l24 M, MSh.p52 M, MSh.o25 M, MSh.l25 M, m_peek G (by omega) (by omega), m_isSmall pk_bb, m_isDigit pk_bb, fd0, fd1, fd2, fd3, fd4, fd5, fd6, fd7, fd8, fd9, fd10, fd11, fd12, fd13, fd14, fd15, fd16, fd17, fd18, fd19, fd20, fd21, fd22, fd23, fd24, fd25, fd26, fd27, fd28, fd29, fd30, fd31, fd32, fd33, fd34, fd35, fd36, fd37, fd38, fd39, fd40, fd41, fd42, fd43, fd44, fd45, fd46, fd47, fd48, fd49, fd50, fd51, fd52, s13, -Int.reduceToNat, -Int32.reduceToNatClampNeg, il0, il1, il2, il3, il4, il5, il6, il7, il8, il9, il10, il11, il12, il13, il14, il15, il16, il17, il18, il19, il20, il21, il22, il23, il24, il25, il26, il27, il28, il29, il30, il31, il32, il35, il36, il38, il40, il42, il43, il44, il45, il46, il47, il48, il49, il50, il51, il52, il57, il59, il60, il63, il64, il75, il80, il95, il96, il97, il98, il99, il100, il120, il122, il123, il127, il128, il135, il167, il175, il225, il249, il250, il255, il256, il360, il370, il384, il600, il700, il740, il900, il940, il1024, il1600, il4800, il64000, il125000, il262143, il1000000000, iI_toInt, iI_add, iI_sub, iI_mul, iI_neg, iI_lt, iI_le, iI_eq, iI_n, iI_in, iI_div, iI_mod, iI_shm, iI_and1, iI_and7, iI_and63, iI_shr3, iI_shr6, rd_I, ob, Option.some.injEq, exists_eq_left', exists_eq_left, true_and, and_true, fqI, fqJ, eq_self, true_or, or_true, bP_0, bP_0i, npP, bP_1i, bP_b, not_true_eq_false, not_false_eq_true, false_implies, true_implies, implies_true, Classical.not_not, and_self, cP, cP', ite_n]
    rw [ite_f n1, ite_f n2]
    have kne : ¬ i = q := by omega
    by_cases cA : ∀ j, q ≤ j → j < i → (ltC (T j) ↔ ltC (T q))
    · rw [ite_t cA]
      by_cases cS : ltC (T q)
      · have al : allI ltC T q i := fun j j1 j2 => (cA j j1 j2).mpr cS
        have nd : ¬ allI dgC T q i := fun u => by
          have := u q (Int.le_refl _) sgt
          unfold dgC at this; unfold ltC at cS; omega
        rw [ite_t cS]
        by_cases c6 : i - q ≤ 6
        · rw [ite_t c6, ite_t cS]
          refine fin 1 (by omega) ?_
          unfold rnK mkR; rw [ite_f kne, ite_t ⟨al, c6⟩]; rfl
        · rw [ite_f c6]
          refine fin 4 (by omega) ?_
          unfold rnK mkR; rw [ite_f kne, ite_f (fun u => c6 u.2), ite_f (fun u => nd u.1)]; rfl
      · have al : allI dgC T q i := fun j j1 j2 => (s3 j j1 j2).elim (fun u => absurd ((cA j j1 j2).mp u) cS) id
        have nd : ¬ allI ltC T q i := fun u => cS (u q (Int.le_refl _) sgt)
        rw [ite_f cS]
        by_cases c8 : i - q ≤ 8
        · rw [ite_t c8, ite_f cS]
          refine fin 2 (by omega) ?_
          unfold rnK mkR; rw [ite_f kne, ite_f (fun u => nd u.1), ite_t ⟨al, c8⟩]; rfl
        · rw [ite_f c8]
          refine fin 4 (by omega) ?_
          unfold rnK mkR; rw [ite_f kne, ite_f (fun u => nd u.1), ite_f (fun u => c8 u.2)]; rfl
    · rw [ite_f cA]
      refine fin 4 (by omega) ?_
      have n1 : ¬ allI ltC T q i := fun u => cA fun j j1 j2 => ⟨fun _ => u q (Int.le_refl _) sgt, fun _ => u j j1 j2⟩
      have n2 : ¬ allI dgC T q i := fun u => cA fun j j1 j2 => by
        have v1 := u j j1 j2
        have v2 := u q (Int.le_refl _) sgt
        unfold dgC at v1 v2; unfold ltC; omega
      unfold rnK mkR; rw [ite_f kne, ite_f (fun u => n1 u.1), ite_f (fun u => n2 u.1)]; rfl
  | succ dd ih =>
    intro g i hi R
    show wb_X12_next_157 (wl_X12_next_157 postV (dd + 1)) g 92 _ _ postV
    have G := R.KK
    have M := G.M
    have hn := G.hn
    have qi := R.qi
    have al := s3 i qi.2 (by omega)
    have st : wb_X12_next_177 (wl_X12_next_157 postV (dd + 1)) g 92 (bP (ltC (T q))) (bP (∀ j, q ≤ j → j < i → (ltC (T j) ↔ ltC (T q)))) postV := by
      have nx := m_run1 (postV := postV) (K157 := wl_X12_next_157 postV (dd + 1)) (X2 := bP (ltC (T q))) (X3 := bP (∀ j, q ≤ j → j < i + 1 → (ltC (T j) ↔ ltC (T q)))) R (by omega) al (fun h' R' => ih h' (i + 1) (by omega) R')
      have pl : ltC (pk T n i) ↔ ltC (T i) := by rw [pk_lc (G.tb i)]; exact ⟨fun u => u.2, fun u => ⟨by omega, u⟩⟩
      unfold wb_X12_next_177 wb_X12_next_196
      simp (disch := omega) only [MSh.o0 M, MSh.p1 M, MSh.o1 M, MSh.l1 M, MSh.p6 M, MSh.o2 M, MSh.l2 M, MSh.p7 M, MSh.o3 M, MSh.l3 M, MSh.p8 M, MSh.o4 M, MSh.l4 M, MSh.p9 M, MSh.o5 M, MSh.l5 M, MSh.p10 M, MSh.o6 M, MSh.l6 M, MSh.p24 M, MSh.o7 M, MSh.l7 M, MSh.p25 M, MSh.o8 M, MSh.l8 M, MSh.p26 M, MSh.o9 M, MSh.l9 M, MSh.p32 M, MSh.o10 M, MSh.l10 M, MSh.p33 M, MSh.o11 M, MSh.l11 M, MSh.p35 M, MSh.o12 M, MSh.l12 M, MSh.p36 M, MSh.o13 M, MSh.l13 M, MSh.p37 M, MSh.o14 M, MSh.l14 M, MSh.p38 M, MSh.o15 M, MSh.l15 M, MSh.p39 M, MSh.o16 M, MSh.l16 M, MSh.p42 M, MSh.o17 M, MSh.l17 M, MSh.p43 M, MSh.o18 M, MSh.l18 M, MSh.p44 M, MSh.o19 M, MSh.l19 M, MSh.p45 M, MSh.o20 M, MSh.l20 M, MSh.p46 M, MSh.o21 M, MSh.l21 M, MSh.p47 M, MSh.o22 M, MSh.l22 M, MSh.p50 M, MSh.o23 M, MSh.l23 M, MSh.p51 M, MSh.o24 M, MSh.l24 M, MSh.p52 M, MSh.o25 M, MSh.l25 M, m_peek G (by omega) (by omega), m_isSmall pk_bb, -Int.reduceToNat, -Int32.reduceToNatClampNeg, il0, il1, il2, il3, il4, il5, il6, il7, il8, il9, il10, il11, il12, il13, il14, il15, il16, il17, il18, il19, il20, il21, il22, il23, il24, il25, il26, il27, il28, il29, il30, il31, il32, il35, il36, il38, il40, il42, il43, il44, il45, il46, il47, il48, il49, il50, il51, il52, il57, il59, il60, il63, il64, il75, il80, il95, il96, il97, il98, il99, il100, il120, il122, il123, il127, il128, il135, il167, il175, il225, il249, il250, il255, il256, il360, il370, il384, il600, il700, il740, il900, il940, il1024, il1600, il4800, il64000, il125000, il262143, il1000000000, iI_toInt, iI_add, iI_sub, iI_mul, iI_neg, iI_lt, iI_le, iI_eq, iI_n, iI_in, iI_div, iI_mod, iI_shm, iI_and1, iI_and7, iI_and63, iI_shr3, iI_shr6, rd_I, ob, Option.some.injEq, exists_eq_left', exists_eq_left, true_and, and_true, fqI, fqJ, eq_self, true_or, or_true, bP_0, bP_0i, npP, bP_1i, bP_b, not_true_eq_false, not_false_eq_true, false_implies, true_implies, implies_true, Classical.not_not, and_self, cP, cP', ite_n]
      by_cases cA : ∀ j, q ≤ j → j < i → (ltC (T j) ↔ ltC (T q))
      · rw [ite_t cA]
        by_cases cj : ltC (T i) ↔ ltC (T q)
        · rw [ite_t (by rw [bP_c (pl.trans cj)])]
          rw [bP_t (P := ∀ j, q ≤ j → j < i + 1 → (ltC (T j) ↔ ltC (T q))) (fun j j1 j2 => by
            by_cases u : j = i
            · rw [u]; exact cj
            · exact cA j j1 (by omega))] at nx
          exact nx
        · rw [ite_f (fun u => cj (by
            rw [bP_c pl] at u
            by_cases z : ltC (T i)
            · rw [bP_t z] at u
              exact ⟨fun _ => Eq.mp (bP_1i (ltC (T q))) u.symm, fun _ => z⟩
            · rw [bP_f z] at u
              exact ⟨fun y => absurd y z, fun y => absurd y (Eq.mp (bP_0i (ltC (T q))) u.symm)⟩))]
          rw [bP_f (P := ∀ j, q ≤ j → j < i + 1 → (ltC (T j) ↔ ltC (T q))) (fun u => cj (u i (by omega) (by omega)))] at nx
          exact nx
      · rw [ite_f cA]
        rw [bP_f (P := ∀ j, q ≤ j → j < i + 1 → (ltC (T j) ↔ ltC (T q))) (fun u => cA fun j j1 j2 => u j j1 (by omega))] at nx
        exact nx
    unfold wb_X12_next_157
    simp (disch := omega) only [MSh.o0 M, MSh.p1 M, MSh.o1 M, MSh.l1 M, MSh.p6 M, MSh.o2 M, MSh.l2 M, MSh.p7 M, MSh.o3 M, MSh.l3 M, MSh.p8 M, MSh.o4 M, MSh.l4 M, MSh.p9 M, MSh.o5 M, MSh.l5 M, MSh.p10 M, MSh.o6 M, MSh.l6 M, MSh.p24 M, MSh.o7 M, MSh.l7 M, MSh.p25 M, MSh.o8 M, MSh.l8 M, MSh.p26 M, MSh.o9 M, MSh.l9 M, MSh.p32 M, MSh.o10 M, MSh.l10 M, MSh.p33 M, MSh.o11 M, MSh.l11 M, MSh.p35 M, MSh.o12 M, MSh.l12 M, MSh.p36 M, MSh.o13 M, MSh.l13 M, MSh.p37 M, MSh.o14 M, MSh.l14 M, MSh.p38 M, MSh.o15 M, MSh.l15 M, MSh.p39 M, MSh.o16 M, MSh.l16 M, MSh.p42 M, MSh.o17 M, MSh.l17 M, MSh.p43 M, MSh.o18 M, MSh.l18 M, MSh.p44 M, MSh.o19 M, MSh.l19 M, MSh.p45 M, MSh.o20 M, MSh.l20 M, MSh.p46 M, MSh.o21 M, MSh.l21 M, MSh.p47 M, MSh.o22 M, MSh.l22 M, MSh.p50 M, MSh.o23 M, MSh.l23 M, MSh.p51 M, MSh.o24 M, MSh.l24 M, MSh.p52 M, MSh.o25 M, MSh.l25 M, m_peek G (by omega) (by omega), m_isSmall pk_bb, m_isDigit pk_bb, -Int.reduceToNat, -Int32.reduceToNatClampNeg, il0, il1, il2, il3, il4, il5, il6, il7, il8, il9, il10, il11, il12, il13, il14, il15, il16, il17, il18, il19, il20, il21, il22, il23, il24, il25, il26, il27, il28, il29, il30, il31, il32, il35, il36, il38, il40, il42, il43, il44, il45, il46, il47, il48, il49, il50, il51, il52, il57, il59, il60, il63, il64, il75, il80, il95, il96, il97, il98, il99, il100, il120, il122, il123, il127, il128, il135, il167, il175, il225, il249, il250, il255, il256, il360, il370, il384, il600, il700, il740, il900, il940, il1024, il1600, il4800, il64000, il125000, il262143, il1000000000, iI_toInt, iI_add, iI_sub, iI_mul, iI_neg, iI_lt, iI_le, iI_eq, iI_n, iI_in, iI_div, iI_mod, iI_shm, iI_and1, iI_and7, iI_and63, iI_shr3, iI_shr6, rd_I, ob, Option.some.injEq, exists_eq_left', exists_eq_left, true_and, and_true, fqI, fqJ, eq_self, true_or, or_true, bP_0, bP_0i, npP, bP_1i, bP_b, not_true_eq_false, not_false_eq_true, false_implies, true_implies, implies_true, Classical.not_not, and_self, cP, cP', ite_n]
    by_cases c1 : ltC (pk T n i)
    · rw [ite_t c1]; exact st
    · rw [ite_f c1]
      have c2 : dgC (pk T n i) := (pk_dc (G.tb i)).mpr ⟨by omega, al.elim (fun u => absurd ((pk_lc (n := n) (G.tb i)).mpr ⟨by omega, u⟩) c1) id⟩
      rw [ite_t c2]; exact st
def mkK (n m k : Int) : Int := if k = 4 then (if n ≤ m then 0 else 4) else if k = 0 then 4 else k
/-- the model, the TOKEN from p on being read -/
def MTk (T : Int → Int) (n m : Int) (h : AH) (p : Int) : Prop := (MSh h) ∧ (rd h 93 = T) ∧ (∀ k, -128 ≤ T k ∧ T k ≤ 127) ∧ (rd h 92 3 = n) ∧ (rd h 92 5 = m) ∧ (tkK T n m p ≠ 4 → tkK T n m p ≠ 0 → rd h 92 4 = tkE T n m p) ∧ (rd h 92 11 = mkK n m (tkK T n m p)) ∧ (rd h 92 12 = tkA T n m p) ∧ (tkK T n m p = 1 → aJ h 92 17 = Int64.ofInt (w8 (tkW T n m p))) ∧ (tkK T n m p = 2 → rd h 92 14 = tkV T n m p ∧ rd h 92 13 = tkS T n m p) ∧ (tkK T n m p = 3 → rd h 92 14 = 59) ∧ (0 ≤ p ∧ p ≤ n) ∧ (0 ≤ n ∧ n ≤ 940) ∧ (0 ≤ m ∧ m ≤ 1000)
theorem MTk.M {T : Int → Int} {n m : Int} {h : AH} {p : Int} (R : MTk T n m h p) : MSh h := R.1
theorem MTk.tp {T : Int → Int} {n m : Int} {h : AH} {p : Int} (R : MTk T n m h p) : rd h 93 = T := R.2.1
theorem MTk.tb {T : Int → Int} {n m : Int} {h : AH} {p : Int} (R : MTk T n m h p) : ∀ k, -128 ≤ T k ∧ T k ≤ 127 := R.2.2.1
theorem MTk.s3 {T : Int → Int} {n m : Int} {h : AH} {p : Int} (R : MTk T n m h p) : rd h 92 3 = n := R.2.2.2.1
theorem MTk.s5 {T : Int → Int} {n m : Int} {h : AH} {p : Int} (R : MTk T n m h p) : rd h 92 5 = m := R.2.2.2.2.1
theorem MTk.s4 {T : Int → Int} {n m : Int} {h : AH} {p : Int} (R : MTk T n m h p) : tkK T n m p ≠ 4 → tkK T n m p ≠ 0 → rd h 92 4 = tkE T n m p := R.2.2.2.2.2.1
theorem MTk.s11 {T : Int → Int} {n m : Int} {h : AH} {p : Int} (R : MTk T n m h p) : rd h 92 11 = mkK n m (tkK T n m p) := R.2.2.2.2.2.2.1
theorem MTk.s12 {T : Int → Int} {n m : Int} {h : AH} {p : Int} (R : MTk T n m h p) : rd h 92 12 = tkA T n m p := R.2.2.2.2.2.2.2.1
theorem MTk.w1 {T : Int → Int} {n m : Int} {h : AH} {p : Int} (R : MTk T n m h p) : tkK T n m p = 1 → aJ h 92 17 = Int64.ofInt (w8 (tkW T n m p)) := R.2.2.2.2.2.2.2.2.1
theorem MTk.w2 {T : Int → Int} {n m : Int} {h : AH} {p : Int} (R : MTk T n m h p) : tkK T n m p = 2 → rd h 92 14 = tkV T n m p ∧ rd h 92 13 = tkS T n m p := R.2.2.2.2.2.2.2.2.2.1
theorem MTk.w3 {T : Int → Int} {n m : Int} {h : AH} {p : Int} (R : MTk T n m h p) : tkK T n m p = 3 → rd h 92 14 = 59 := R.2.2.2.2.2.2.2.2.2.2.1
theorem MTk.hp {T : Int → Int} {n m : Int} {h : AH} {p : Int} (R : MTk T n m h p) : 0 ≤ p ∧ p ≤ n := R.2.2.2.2.2.2.2.2.2.2.2.1
theorem MTk.hn {T : Int → Int} {n m : Int} {h : AH} {p : Int} (R : MTk T n m h p) : 0 ≤ n ∧ n ≤ 940 := R.2.2.2.2.2.2.2.2.2.2.2.2.1
theorem MTk.hm {T : Int → Int} {n m : Int} {h : AH} {p : Int} (R : MTk T n m h p) : 0 ≤ m ∧ m ≤ 1000 := R.2.2.2.2.2.2.2.2.2.2.2.2.2
theorem m_next (R : MK T n m h p) (hp : 0 ≤ p ∧ p ≤ n) (kk : ∀ h', nF h h' → MTk T n m h' p → postV h') : wp_X12_next h 92 postV := by
  have hn := R.hn
  have hm := R.hm
  have mb := mnZ_bd (n := n) (m := m) hn.1 hm.1
  obtain ⟨⟨s1, s2⟩, s3, s4⟩ := skM_spec (T := T) hp.2
  have endK : mnZ n m ≤ skM T n p → tkK T n m p = 4 ∧ tkA T n m p = mnZ n m := fun u => by
    have := sk_out hp u
    unfold tkK tkA
    rw [ite_t this, ite_t this]; exact ⟨rfl, rfl⟩
  refine m_skip R hp (fun g F G r12 r13 rest lim => ?_) (fun lim g F G r12 r11 rest => ?_)
  · have M := G.M
    unfold wb_X12_next_80 wb_X12_next_121
    have pb := pk_bb (T := T) (n := n) (i := skM T n p)
    simp (disch := omega) only [MSh.o0 M, MSh.p1 M, MSh.o1 M, MSh.l1 M, MSh.p6 M, MSh.o2 M, MSh.l2 M, MSh.p7 M, MSh.o3 M, MSh.l3 M, MSh.p8 M, MSh.o4 M, MSh.l4 M, MSh.p9 M, MSh.o5 M, MSh.l5 M, MSh.p10 M, MSh.o6 M, MSh.l6 M, MSh.p24 M, MSh.o7 M, MSh.l7 M, MSh.p25 M, MSh.o8 M, MSh.l8 M, MSh.p26 M, MSh.o9 M, MSh.l9 M, MSh.p32 M, MSh.o10 M, MSh.l10 M, MSh.p33 M, MSh.o11 M, MSh.l11 M, MSh.p35 M, MSh.o12 M, MSh.l12 M, MSh.p36 M, MSh.o13 M, MSh.l13 M, MSh.p37 M, MSh.o14 M, MSh.l14 M, MSh.p38 M, MSh.o15 M, MSh.l15 M, MSh.p39 M, MSh.o16 M, MSh.l16 M, MSh.p42 M, MSh.o17 M, MSh.l17 M, MSh.p43 M, MSh.o18 M, MSh.l18 M, MSh.p44 M, MSh.o19 M, MSh.l19 M, MSh.p45 M, MSh.o20 M, MSh.l20 M, MSh.p46 M, MSh.o21 M, MSh.l21 M, MSh.p47 M, MSh.o22 M, MSh.l22 M, MSh.p50 M, MSh.o23 M, MSh.l23 M, MSh.p51 M, MSh.o24 M, MSh.l24 M, MSh.p52 M, MSh.o25 M, MSh.l25 M, m_peek G (by omega) (by omega), m_isSmall pk_bb, m_isDigit pk_bb, fd0, fd1, fd2, fd3, fd4, fd5, fd6, fd7, fd8, fd9, fd10, fd11, fd12, fd13, fd14, fd15, fd16, fd17, fd18, fd19, fd20, fd21, fd22, fd23, fd24, fd25, fd26, fd27, fd28, fd29, fd30, fd31, fd32, fd33, fd34, fd35, fd36, fd37, fd38, fd39, fd40, fd41, fd42, fd43, fd44, fd45, fd46, fd47, fd48, fd49, fd50, fd51, fd52, -Int.reduceToNat, -Int32.reduceToNatClampNeg, il0, il1, il2, il3, il4, il5, il6, il7, il8, il9, il10, il11, il12, il13, il14, il15, il16, il17, il18, il19, il20, il21, il22, il23, il24, il25, il26, il27, il28, il29, il30, il31, il32, il35, il36, il38, il40, il42, il43, il44, il45, il46, il47, il48, il49, il50, il51, il52, il57, il59, il60, il63, il64, il75, il80, il95, il96, il97, il98, il99, il100, il120, il122, il123, il127, il128, il135, il167, il175, il225, il249, il250, il255, il256, il360, il370, il384, il600, il700, il740, il900, il940, il1024, il1600, il4800, il64000, il125000, il262143, il1000000000, iI_toInt, iI_add, iI_sub, iI_mul, iI_neg, iI_lt, iI_le, iI_eq, iI_n, iI_in, iI_div, iI_mod, iI_shm, iI_and1, iI_and7, iI_and63, iI_shr3, iI_shr6, rd_I, ob, Option.some.injEq, exists_eq_left', exists_eq_left, true_and, and_true, fqI, fqJ, eq_self, true_or, or_true, bP_0, bP_0i, npP, bP_1i, bP_b, not_true_eq_false, not_false_eq_true, false_implies, true_implies, implies_true, Classical.not_not, and_self, cP, cP', ite_n]
    generalize hq : skM T n p = q at *
    by_cases cn : q < n
    · have cm : q < mnZ n m := by unfold mnZ; split <;> omega
      have sk : skT T n m p = q := by rw [← hq]; exact sk_in hp (by rw [hq]; exact cm)
      have eA : tkA T n m p = q := by unfold tkA; rw [sk, ite_f (by omega)]
      have tb := G.tb q
      have pp : pk T n q = T q % 256 := by unfold pk; rw [if_neg (by omega)]
      rw [ite_t (show 0 ≤ pk T n q by omega)]
      have run : ltC (T q) ∨ dgC (T q) → wb_X12_next_140 g 92 (iI (pk T n q)) postV := by
        intro al
        have n59 : T q ≠ 59 := by unfold ltC dgC at al; omega
        have pl : ltC (pk T n q) ↔ ltC (T q) := by rw [pk_lc tb]; exact ⟨fun u => u.2, fun u => ⟨cn, u⟩⟩
        unfold wb_X12_next_140
        simp (disch := omega) only [MSh.o0 M, MSh.p1 M, MSh.o1 M, MSh.l1 M, MSh.p6 M, MSh.o2 M, MSh.l2 M, MSh.p7 M, MSh.o3 M, MSh.l3 M, MSh.p8 M, MSh.o4 M, MSh.l4 M, MSh.p9 M, MSh.o5 M, MSh.l5 M, MSh.p10 M, MSh.o6 M, MSh.l6 M, MSh.p24 M, MSh.o7 M, MSh.l7 M, MSh.p25 M, MSh.o8 M, MSh.l8 M, MSh.p26 M, MSh.o9 M, MSh.l9 M, MSh.p32 M, MSh.o10 M, MSh.l10 M, MSh.p33 M, MSh.o11 M, MSh.l11 M, MSh.p35 M, MSh.o12 M, MSh.l12 M, MSh.p36 M, MSh.o13 M, MSh.l13 M, MSh.p37 M, MSh.o14 M, MSh.l14 M, MSh.p38 M, MSh.o15 M, MSh.l15 M, MSh.p39 M, MSh.o16 M, MSh.l16 M, MSh.p42 M, MSh.o17 M, MSh.l17 M, MSh.p43 M, MSh.o18 M, MSh.l18 M, MSh.p44 M, MSh.o19 M, MSh.l19 M, MSh.p45 M, MSh.o20 M, MSh.l20 M, MSh.p46 M, MSh.o21 M, MSh.l21 M, MSh.p47 M, MSh.o22 M, MSh.l22 M, MSh.p50 M, MSh.o23 M, MSh.l23 M, MSh.p51 M, MSh.o24 M, MSh.l24 M, MSh.p52 M, MSh.o25 M, MSh.l25 M, m_isSmall pk_bb, -Int.reduceToNat, -Int32.reduceToNatClampNeg, il0, il1, il2, il3, il4, il5, il6, il7, il8, il9, il10, il11, il12, il13, il14, il15, il16, il17, il18, il19, il20, il21, il22, il23, il24, il25, il26, il27, il28, il29, il30, il31, il32, il35, il36, il38, il40, il42, il43, il44, il45, il46, il47, il48, il49, il50, il51, il52, il57, il59, il60, il63, il64, il75, il80, il95, il96, il97, il98, il99, il100, il120, il122, il123, il127, il128, il135, il167, il175, il225, il249, il250, il255, il256, il360, il370, il384, il600, il700, il740, il900, il940, il1024, il1600, il4800, il64000, il125000, il262143, il1000000000, iI_toInt, iI_add, iI_sub, iI_mul, iI_neg, iI_lt, iI_le, iI_eq, iI_n, iI_in, iI_div, iI_mod, iI_shm, iI_and1, iI_and7, iI_and63, iI_shr3, iI_shr6, rd_I, ob, Option.some.injEq, exists_eq_left', exists_eq_left, true_and, and_true, fqI, fqJ, eq_self, true_or, or_true, bP_0, bP_0i, npP, bP_1i, bP_b, not_true_eq_false, not_false_eq_true, false_implies, true_implies, implies_true, Classical.not_not, and_self]
        intro g1 e1
        have f1 : Fr [] [92] [] g g1 := by rw [e1]; exact fr_hJ
        have G1 := G.putJ f1
        have M1 := G1.M
        simp (disch := omega) only [MSh.o0 M1, MSh.p1 M1, MSh.o1 M1, MSh.l1 M1, MSh.p6 M1, MSh.o2 M1, MSh.l2 M1, MSh.p7 M1, MSh.o3 M1, MSh.l3 M1, MSh.p8 M1, MSh.o4 M1, MSh.l4 M1, MSh.p9 M1, MSh.o5 M1, MSh.l5 M1, MSh.p10 M1, MSh.o6 M1, MSh.l6 M1, MSh.p24 M1, MSh.o7 M1, MSh.l7 M1, MSh.p25 M1, MSh.o8 M1, MSh.l8 M1, MSh.p26 M1, MSh.o9 M1, MSh.l9 M1, MSh.p32 M1, MSh.o10 M1, MSh.l10 M1, MSh.p33 M1, MSh.o11 M1, MSh.l11 M1, MSh.p35 M1, MSh.o12 M1, MSh.l12 M1, MSh.p36 M1, MSh.o13 M1, MSh.l13 M1, MSh.p37 M1, MSh.o14 M1, MSh.l14 M1, MSh.p38 M1, MSh.o15 M1, MSh.l15 M1, MSh.p39 M1, MSh.o16 M1, MSh.l16 M1, MSh.p42 M1, MSh.o17 M1, MSh.l17 M1, MSh.p43 M1, MSh.o18 M1, MSh.l18 M1, MSh.p44 M1, MSh.o19 M1, MSh.l19 M1, MSh.p45 M1, MSh.o20 M1, MSh.l20 M1, MSh.p46 M1, MSh.o21 M1, MSh.l21 M1, MSh.p47 M1, MSh.o22 M1, MSh.l22 M1, MSh.p50 M1, MSh.o23 M1, MSh.l23 M1, MSh.p51 M1, MSh.o24 M1, MSh.l24 M1, MSh.p52 M1, MSh.o25 M1, MSh.l25 M1, -Int.reduceToNat, -Int32.reduceToNatClampNeg, il0, il1, il2, il3, il4, il5, il6, il7, il8, il9, il10, il11, il12, il13, il14, il15, il16, il17, il18, il19, il20, il21, il22, il23, il24, il25, il26, il27, il28, il29, il30, il31, il32, il35, il36, il38, il40, il42, il43, il44, il45, il46, il47, il48, il49, il50, il51, il52, il57, il59, il60, il63, il64, il75, il80, il95, il96, il97, il98, il99, il100, il120, il122, il123, il127, il128, il135, il167, il175, il225, il249, il250, il255, il256, il360, il370, il384, il600, il700, il740, il900, il940, il1024, il1600, il4800, il64000, il125000, il262143, il1000000000, iI_toInt, iI_add, iI_sub, iI_mul, iI_neg, iI_lt, iI_le, iI_eq, iI_n, iI_in, iI_div, iI_mod, iI_shm, iI_and1, iI_and7, iI_and63, iI_shr3, iI_shr6, rd_I, ob, Option.some.injEq, exists_eq_left', exists_eq_left, true_and, and_true, fqI, fqJ, eq_self, true_or, or_true, bP_0, bP_0i, npP, bP_1i, bP_b, not_true_eq_false, not_false_eq_true, false_implies, true_implies, implies_true, Classical.not_not, and_self]
        intro g2 e2
        obtain ⟨f2, r2⟩ := wI (i := 14) (by omega) (by omega) (by omega) e2
        have G2 := G1.put f2 r2 (by omega)
        have row1 : rd g1 92 = rd g 92 := f1.row (by simp)
        rw [show rd g2 92 4 = q by rw [r2, updT_n (by omega), row1]; exact G.s4] at G2
        have es := rnE_spec (T := T) (n := n) (q := q) (by omega)
        have lp := m_runs (postV := postV) (h0 := g2) (m := m) al cn (fun h' F' K' rs k11 w1 w2 => ?_) (rnE T n q - q).toNat g2 q (by omega) ⟨G2, (Fr.refl g2).mono (by simp) (by simp) (by simp), fun _ _ _ _ => rfl, by rw [r2, updT_n (by omega), row1, r13]; omega, fun _ _ => by rw [r2, updT_s, rnV_0], fun _ _ => by rw [f2.2.2.2.2.2.1 92 (by simp), e1, aJ_hJ, if_pos rfl, rnW_0]; rfl, by omega⟩
        · rw [bP_t (P := ∀ j, q ≤ j → j < q → (ltC (T j) ↔ ltC (T q))) (fun j j1 j2 => by omega)] at lp
          rw [bP_c pl]
          exact ⟨_, lp⟩
        · have eK : tkK T n m p = rnK T q (rnE T n q) := by unfold tkK; rw [sk, ite_f (by omega), ite_f n59]
          have eE : tkE T n m p = rnE T n q := by unfold tkE; rw [sk, ite_f (by omega), ite_f n59]
          have eW : tkW T n m p = rnW T q (rnE T n q) := by unfold tkW; rw [sk]
          have eV : tkV T n m p = rnV T q (rnE T n q) := by unfold tkV; rw [sk]
          have eS : tkS T n m p = rnE T n q - q := by unfold tkS; rw [sk]
          have rs' : ∀ j, j ≠ 4 → j ≠ 11 → j ≠ 12 → j ≠ 13 → j ≠ 14 → rd h' 92 j = rd h 92 j := fun j j1 j2 j3 j4 j5 => by
            rw [rs j j1 j2 j4 j5, r2, updT_n j5, row1]; exact rest j j1 j3 j4
          refine kk h' ⟨(F.i92.trans (f1.j92.trans (f2.i92.trans F'))), rs'⟩ ⟨K'.M, K'.tp, K'.tb, K'.s3, K'.s5, fun _ _ => by rw [eE]; exact K'.s4, ?_, ?_, fun u => by rw [eW]; exact w1 (eK.symm.trans u), fun u => by rw [eV, eS]; exact w2 (eK.symm.trans u), fun u => ?_, hp, hn, hm⟩
          · rw [k11, eK]
            unfold mkR mkK
            rcases rnK_cases (T := T) (q := q) (e := rnE T n q) with z | z | z
            · rw [z]; rfl
            · rw [z.1]; rfl
            · rw [z.1]; rfl
          · rw [rs 12 (by omega) (by omega) (by omega) (by omega), r2, updT_n (by omega), row1, r12, eA]
          · rw [eK] at u
            rcases rnK_cases (T := T) (q := q) (e := rnE T n q) with z | z | z <;> omega
      have sgn : ∀ kd : Int, kd = (if T q = 59 then 3 else 4) → ¬ alC (T q) → ∀ g1, g1 = hI g 92 11 (iI kd) → ob g1 92 11 ∧ ∀ g2, g2 = hI g1 92 14 (iI (pk T n q)) → ob g2 92 11 ∧ ob g2 92 11 ∧ ∀ g3, g3 = hI g2 92 4 (iI (rd g2 92 4 + 1)) → postV g3 := by
        intro kd ke na g1 e1
        have kb : 3 ≤ kd ∧ kd ≤ 4 := by rw [ke]; split <;> omega
        obtain ⟨f1, r1⟩ := wI (i := 11) (by omega) (by omega) (by omega) e1
        have G1 := G.put f1 r1 (by omega)
        refine ⟨G1.M.o0, fun g2 e2 => ?_⟩
        obtain ⟨f2, r2⟩ := wI (i := 14) (by omega) (by omega) (by omega) e2
        have G2 := G1.put f2 r2 (by omega)
        refine ⟨G2.M.o0, G2.M.o0, fun g3 e3 => ?_⟩
        have q4 : rd g2 92 4 = q := by rw [r2, updT_n (by omega), r1, updT_n (by omega)]; exact G.s4
        rw [q4] at e3
        obtain ⟨f3, r3⟩ := wI (i := 4) (by omega) (by omega) (by omega) e3
        have G3 := G2.put f3 r3 (by omega)
        have rE : rnE T n q = q := by
          unfold rnE
          exact fz_at _ _ _ (Int.le_refl _) (by omega) (fun j j1 j2 => by omega) (fun _ => na)
        have eK : tkK T n m p = if T q = 59 then 3 else 0 := by
          unfold tkK
          rw [sk, ite_f (by omega), rE]
          by_cases c59 : T q = 59
          · rw [ite_t c59, if_pos c59]
          · rw [ite_f c59, if_neg c59]
            unfold rnK
            rw [ite_t rfl]
        have kv : tkK T n m p = 3 ∨ tkK T n m p = 0 := by rw [eK]; split <;> omega
        refine kk g3 ⟨(F.i92.trans (f1.trans (f2.trans f3)).i92), (fun j j1 j2 j3 j4 j5 => by rw [r3, updT_n j1, r2, updT_n j5, r1, updT_n j2]; exact rest j j1 j3 j4)⟩ ⟨G3.M, G3.tp, G3.tb, G3.s3, G3.s5, fun u1 u2 => ?_, ?_, ?_, fun u => by omega, fun u => by omega, fun u => ?_, hp, hn, hm⟩
        · have c59 : T q = 59 := by
            by_cases z : T q = 59
            · exact z
            · rw [eK, if_neg z] at u2; omega
          rw [r3, updT_s]
          unfold tkE
          rw [sk, ite_f (by omega), ite_t c59]
        · rw [r3, updT_n (by omega), r2, updT_n (by omega), r1, updT_s, eK, ke]
          unfold mkK
          by_cases z : T q = 59
          · rw [if_pos z, if_pos z]; rfl
          · rw [if_neg z, if_neg z]; rfl
        · rw [r3, updT_n (by omega), r2, updT_n (by omega), r1, updT_n (by omega), r12, eA]
        · rw [eK] at u
          by_cases z : T q = 59
          · rw [r3, updT_n (by omega), r2, updT_s, pp]; omega
          · rw [if_neg z] at u; omega
      by_cases c1 : ltC (pk T n q)
      · rw [ite_t c1]; exact run (Or.inl ((pk_lc tb).mp c1).2)
      · rw [ite_f c1]
        by_cases c2 : dgC (pk T n q)
        · rw [ite_t c2]; exact run (Or.inr ((pk_dc tb).mp c2).2)
        · rw [ite_f c2]
          have na : ¬ alC (T q) := fun u => u.elim (fun z => c1 ((pk_lc tb).mpr ⟨cn, z⟩)) (fun z => c2 ((pk_dc tb).mpr ⟨cn, z⟩))
          by_cases c59 : T q = 59
          · rw [ite_t (show pk T n q = 59 by omega)]
            exact sgn 3 (by rw [if_pos c59]) na
          · rw [ite_f (show ¬ pk T n q = 59 by omega)]
            exact sgn 4 (by rw [if_neg c59]) na
    · have eq' : pk T n q = -1 := by unfold pk; rw [if_pos (by omega)]
      rw [ite_f (show ¬ 0 ≤ pk T n q by omega)]
      intro g1 e1
      obtain ⟨f1, r1⟩ := wI (i := 11) (by omega) (by omega) (by omega) e1
      have G1 := G.put f1 r1 (by omega)
      have nm : n ≤ m := by omega
      have mz : mnZ n m = n := by unfold mnZ; rw [if_neg (by omega)]
      obtain ⟨eK, eA⟩ := endK (by omega)
      refine kk g1 ⟨(F.i92.trans f1.i92), (fun j j1 j2 j3 j4 j5 => by rw [r1, updT_n j2]; exact rest j j1 j3 j4)⟩ ⟨G1.M, G1.tp, G1.tb, G1.s3, G1.s5, fun u => absurd eK u, ?_, ?_, fun u => by omega, fun u => by omega, fun u => by omega, hp, hn, hm⟩
      · rw [r1, updT_s, eK]; unfold mkK; rw [if_pos rfl, if_pos nm]
      · rw [r1, updT_n (by omega), r12, eA, mz]; omega
  · have mz : mnZ n m = m := by unfold mnZ; rw [if_pos (by omega)]
    obtain ⟨eK, eA⟩ := endK (by omega)
    refine kk g ⟨F.i92, (fun j j1 j2 j3 j4 j5 => rest j j1 j2 j3 j4)⟩ ⟨G.M, G.tp, G.tb, G.s3, G.s5, fun u => absurd eK u, ?_, ?_, fun u => by omega, fun u => by omega, fun u => by omega, hp, hn, hm⟩
    · rw [r11, eK]; unfold mkK; rw [if_pos rfl, if_neg (by omega)]
    · rw [r12, eA, mz]
end MNX
