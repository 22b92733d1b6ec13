/-! a town out of bytes, in the model -/
theorem iI_and255 {a : Int} : iI a &&& iI 255 = iI (a % 256) := by
  apply Int32.toBitVec_inj.mp
  rw [Int32.toBitVec_and]
  have e1 : (iI a).toBitVec = BitVec.ofInt 32 a := rfl
  have e2 : (iI 255).toBitVec = BitVec.ofNat 32 255 := by decide
  have e3 : (iI (a % 256)).toBitVec = BitVec.ofInt 32 (a % 256) := rfl
  rw [e1, e2, e3]
  apply BitVec.eq_of_toNat_eq
  rw [BitVec.toNat_and, BitVec.toNat_ofInt, BitVec.toNat_ofInt, BitVec.toNat_ofNat]
  show (a % 4294967296).toNat &&& (2 ^ 8 - 1) = (a % 256 % 4294967296).toNat
  rw [Nat.and_two_pow_sub_one_eq_mod]
  omega
def byT (s b : Int → Int) : Int → Int := fun i => if i < 3 * s 2 then (if i % 3 = 2 then (if s (99 + (i - 2)) = s (99 + (i - 1)) then 0 else b i) else b i) else s (225 + i)
def ByOk (s b : Int → Int) : Prop := ∀ r, 0 ≤ r → r < s 2 → b (3 * r + 2) ≤ 1
def TByt (h : AH) (a : Nat) : Prop := ∀ k, -128 ≤ rd h a k ∧ rd h a k ≤ 127
theorem T_c {s t t' z z' : Int → Int} {r : Int} (h1 : 0 ≤ r) (h2 : r < 8) (et : ∀ i, 0 ≤ i → i < 24 → t i = t' i) (ez : ∀ i, 0 ≤ i → i < 24 → z i = z' i) (hu : 0 ≤ t (3 * r + 2) ∧ t (3 * r + 2) ≤ 1) : t (3 * r) = t' (3 * r) ∧ t (3 * r + 1) = t' (3 * r + 1) ∧ wdT t z r = wdT t' z' r ∧ hiT t z r = hiT t' z' r := by
  have e0 := et (3 * r) (by omega) (by omega)
  have e1 := et (3 * r + 1) (by omega) (by omega)
  have e2 := et (3 * r + 2) (by omega) (by omega)
  unfold wdT hiT
  rw [← e2]
  exact ⟨e0, e1, ez _ (by omega) (by omega), ez _ (by omega) (by omega)⟩
theorem townT_c {s t t' z z' : Int → Int} (n2 : s 2 ≤ 8) (et : ∀ i, 0 ≤ i → i < 24 → t i = t' i) (ez : ∀ i, 0 ≤ i → i < 24 → z i = z' i) (hu : ∀ r, 0 ≤ r → r < s 2 → 0 ≤ t (3 * r + 2) ∧ t (3 * r + 2) ≤ 1) : townT s t z ↔ townT s t' z' := by
  unfold townT insT onAnT overT ovX ovY
  have key : ∀ r, 0 ≤ r → r < s 2 → t (3 * r) = t' (3 * r) ∧ t (3 * r + 1) = t' (3 * r + 1) ∧ wdT t z r = wdT t' z' r ∧ hiT t z r = hiT t' z' r := fun r r1 r2 => T_c (s := s) r1 (by omega) et ez (hu r r1 r2)
  refine forall_congr' fun r => forall_congr' fun r1 => forall_congr' fun r2 => not_congr ?_
  obtain ⟨a0, a1, a2, a3⟩ := key r r1 r2
  rw [a0, a1, a2, a3]
  refine or_congr Iff.rfl ?_
  refine exists_congr fun o => ?_
  constructor
  · rintro ⟨o1, o2, o3, o4⟩
    obtain ⟨b0, b1, b2, b3⟩ := key o o1 o2
    rw [b0, b1, b2, b3] at o4
    exact ⟨o1, o2, o3, o4⟩
  · rintro ⟨o1, o2, o3, o4⟩
    obtain ⟨b0, b1, b2, b3⟩ := key o o1 o2
    refine ⟨o1, o2, o3, ?_⟩
    rw [b0, b1, b2, b3]
    exact o4
/-- of the model's own numbers all but these stay -/
def MF (is : List Int) (h h' : AH) : Prop := ∀ i, i ∉ is → rd h' 92 i = rd h 92 i
section MTOWN
variable {h : AH} {post : AH → Int32 → Prop} {postV : AH → Prop} {a b c d r x y n hr w u len : Int}
theorem m_taken (M : MSh h) (hl : 0 ≤ rd h 92 2 ∧ rd h 92 2 ≤ 940) (ha : 0 ≤ a ∧ a ≤ 1000) (k : ∀ h', Fr [92] [] [] h h' → MF [2, 3, 4, 5] h h' → rd h' 92 3 = rd h 92 2 → rd h' 92 2 = 0 → rd h' 92 4 = 0 → rd h' 92 5 = a → postV h') : wp_X12_taken h 92 (iI a) postV := by
  unfold wp_X12_taken
  have w3 : ∀ (g : AH) (v : Int), hI g 92 3 (iI v) = hI g 92 (3 : Int).toNat (iI v) := fun _ _ => rfl
  have w2 : ∀ (g : AH) (v : Int), hI g 92 2 (iI v) = hI g 92 (2 : Int).toNat (iI v) := fun _ _ => rfl
  have w4 : ∀ (g : AH) (v : Int), hI g 92 4 (iI v) = hI g 92 (4 : Int).toNat (iI v) := fun _ _ => rfl
  have w5 : ∀ (g : AH) (v : Int), hI g 92 5 (iI v) = hI g 92 (5 : Int).toNat (iI v) := fun _ _ => rfl
  simp (disch := omega) only [MSh.o0 M, MSh.p1 M, MSh.o1 M, MSh.l1 M, MSh.p6 M, MSh.o2 M, MSh.l2 M, MSh.p7 M, MSh.o3 M, MSh.l3 M, MSh.p8 M, MSh.o4 M, MSh.l4 M, MSh.p9 M, MSh.o5 M, MSh.l5 M, MSh.p10 M, MSh.o6 M, MSh.l6 M, MSh.p24 M, MSh.o7 M, MSh.l7 M, MSh.p25 M, MSh.o8 M, MSh.l8 M, MSh.p26 M, MSh.o9 M, MSh.l9 M, MSh.p32 M, MSh.o10 M, MSh.l10 M, MSh.p33 M, MSh.o11 M, MSh.l11 M, MSh.p35 M, MSh.o12 M, MSh.l12 M, MSh.p36 M, MSh.o13 M, MSh.l13 M, MSh.p37 M, MSh.o14 M, MSh.l14 M, MSh.p38 M, MSh.o15 M, MSh.l15 M, MSh.p39 M, MSh.o16 M, MSh.l16 M, MSh.p42 M, MSh.o17 M, MSh.l17 M, MSh.p43 M, MSh.o18 M, MSh.l18 M, MSh.p44 M, MSh.o19 M, MSh.l19 M, MSh.p45 M, MSh.o20 M, MSh.l20 M, MSh.p46 M, MSh.o21 M, MSh.l21 M, MSh.p47 M, MSh.o22 M, MSh.l22 M, MSh.p50 M, MSh.o23 M, MSh.l23 M, MSh.p51 M, MSh.o24 M, MSh.l24 M, MSh.p52 M, MSh.o25 M, MSh.l25 M, fd0, fd1, fd2, fd3, fd4, fd5, fd6, fd7, fd8, fd9, fd10, fd11, fd12, fd13, fd14, fd15, fd16, fd17, fd18, fd19, fd20, fd21, fd22, fd23, fd24, fd25, fd26, fd27, fd28, fd29, fd30, fd31, fd32, fd33, fd34, fd35, fd36, fd37, fd38, fd39, fd40, fd41, fd42, fd43, fd44, fd45, fd46, fd47, fd48, fd49, fd50, fd51, fd52, -Int.reduceToNat, -Int32.reduceToNatClampNeg, il0, il1, il2, il3, il4, il5, il6, il7, il8, il9, il10, il11, il12, il13, il14, il15, il16, il17, il18, il19, il20, il21, il22, il23, il24, il25, il26, il27, il28, il29, il30, il31, il32, il35, il36, il38, il40, il42, il43, il44, il45, il46, il47, il48, il49, il50, il51, il52, il57, il59, il60, il63, il64, il75, il80, il95, il96, il97, il98, il99, il100, il120, il122, il123, il127, il128, il135, il167, il175, il225, il249, il250, il255, il256, il360, il370, il384, il600, il700, il740, il900, il940, il1024, il1600, il4800, il64000, il125000, il262143, il1000000000, iI_toInt, iI_add, iI_sub, iI_mul, iI_neg, iI_lt, iI_le, iI_eq, iI_n, iI_in, iI_div, iI_mod, iI_shm, iI_and1, iI_and7, iI_and63, iI_shr3, iI_shr6, rd_I, ob, Option.some.injEq, exists_eq_left', exists_eq_left, true_and, and_true, fqI, fqJ, eq_self, true_or, or_true, bP_0, bP_0i, npP, bP_1i, bP_b, not_true_eq_false, not_false_eq_true, false_implies, true_implies, implies_true, Classical.not_not, and_self, w3, w2, w4, w5]
  intro h1 e1
  obtain ⟨f1, r1⟩ := wI (by omega) (by omega) (by omega) e1
  have M1 := M.fr f1
  simp (disch := omega) only [MSh.o0 M1, MSh.p1 M1, MSh.o1 M1, MSh.l1 M1, MSh.p6 M1, MSh.o2 M1, MSh.l2 M1, MSh.p7 M1, MSh.o3 M1, MSh.l3 M1, MSh.p8 M1, MSh.o4 M1, MSh.l4 M1, MSh.p9 M1, MSh.o5 M1, MSh.l5 M1, MSh.p10 M1, MSh.o6 M1, MSh.l6 M1, MSh.p24 M1, MSh.o7 M1, MSh.l7 M1, MSh.p25 M1, MSh.o8 M1, MSh.l8 M1, MSh.p26 M1, MSh.o9 M1, MSh.l9 M1, MSh.p32 M1, MSh.o10 M1, MSh.l10 M1, MSh.p33 M1, MSh.o11 M1, MSh.l11 M1, MSh.p35 M1, MSh.o12 M1, MSh.l12 M1, MSh.p36 M1, MSh.o13 M1, MSh.l13 M1, MSh.p37 M1, MSh.o14 M1, MSh.l14 M1, MSh.p38 M1, MSh.o15 M1, MSh.l15 M1, MSh.p39 M1, MSh.o16 M1, MSh.l16 M1, MSh.p42 M1, MSh.o17 M1, MSh.l17 M1, MSh.p43 M1, MSh.o18 M1, MSh.l18 M1, MSh.p44 M1, MSh.o19 M1, MSh.l19 M1, MSh.p45 M1, MSh.o20 M1, MSh.l20 M1, MSh.p46 M1, MSh.o21 M1, MSh.l21 M1, MSh.p47 M1, MSh.o22 M1, MSh.l22 M1, MSh.p50 M1, MSh.o23 M1, MSh.l23 M1, MSh.p51 M1, MSh.o24 M1, MSh.l24 M1, MSh.p52 M1, MSh.o25 M1, MSh.l25 M1, fd0, fd1, fd2, fd3, fd4, fd5, fd6, fd7, fd8, fd9, fd10, fd11, fd12, fd13, fd14, fd15, fd16, fd17, fd18, fd19, fd20, fd21, fd22, fd23, fd24, fd25, fd26, fd27, fd28, fd29, fd30, fd31, fd32, fd33, fd34, fd35, fd36, fd37, fd38, fd39, fd40, fd41, fd42, fd43, fd44, fd45, fd46, fd47, fd48, fd49, fd50, fd51, fd52, -Int.reduceToNat, -Int32.reduceToNatClampNeg, il0, il1, il2, il3, il4, il5, il6, il7, il8, il9, il10, il11, il12, il13, il14, il15, il16, il17, il18, il19, il20, il21, il22, il23, il24, il25, il26, il27, il28, il29, il30, il31, il32, il35, il36, il38, il40, il42, il43, il44, il45, il46, il47, il48, il49, il50, il51, il52, il57, il59, il60, il63, il64, il75, il80, il95, il96, il97, il98, il99, il100, il120, il122, il123, il127, il128, il135, il167, il175, il225, il249, il250, il255, il256, il360, il370, il384, il600, il700, il740, il900, il940, il1024, il1600, il4800, il64000, il125000, il262143, il1000000000, iI_toInt, iI_add, iI_sub, iI_mul, iI_neg, iI_lt, iI_le, iI_eq, iI_n, iI_in, iI_div, iI_mod, iI_shm, iI_and1, iI_and7, iI_and63, iI_shr3, iI_shr6, rd_I, ob, Option.some.injEq, exists_eq_left', exists_eq_left, true_and, and_true, fqI, fqJ, eq_self, true_or, or_true, bP_0, bP_0i, npP, bP_1i, bP_b, not_true_eq_false, not_false_eq_true, false_implies, true_implies, implies_true, Classical.not_not, and_self, w3, w2, w4, w5]
  intro h2 e2
  obtain ⟨f2, r2⟩ := wI (by omega) (by omega) (by omega) e2
  have M2 := M1.fr f2
  simp (disch := omega) only [MSh.o0 M2, MSh.p1 M2, MSh.o1 M2, MSh.l1 M2, MSh.p6 M2, MSh.o2 M2, MSh.l2 M2, MSh.p7 M2, MSh.o3 M2, MSh.l3 M2, MSh.p8 M2, MSh.o4 M2, MSh.l4 M2, MSh.p9 M2, MSh.o5 M2, MSh.l5 M2, MSh.p10 M2, MSh.o6 M2, MSh.l6 M2, MSh.p24 M2, MSh.o7 M2, MSh.l7 M2, MSh.p25 M2, MSh.o8 M2, MSh.l8 M2, MSh.p26 M2, MSh.o9 M2, MSh.l9 M2, MSh.p32 M2, MSh.o10 M2, MSh.l10 M2, MSh.p33 M2, MSh.o11 M2, MSh.l11 M2, MSh.p35 M2, MSh.o12 M2, MSh.l12 M2, MSh.p36 M2, MSh.o13 M2, MSh.l13 M2, MSh.p37 M2, MSh.o14 M2, MSh.l14 M2, MSh.p38 M2, MSh.o15 M2, MSh.l15 M2, MSh.p39 M2, MSh.o16 M2, MSh.l16 M2, MSh.p42 M2, MSh.o17 M2, MSh.l17 M2, MSh.p43 M2, MSh.o18 M2, MSh.l18 M2, MSh.p44 M2, MSh.o19 M2, MSh.l19 M2, MSh.p45 M2, MSh.o20 M2, MSh.l20 M2, MSh.p46 M2, MSh.o21 M2, MSh.l21 M2, MSh.p47 M2, MSh.o22 M2, MSh.l22 M2, MSh.p50 M2, MSh.o23 M2, MSh.l23 M2, MSh.p51 M2, MSh.o24 M2, MSh.l24 M2, MSh.p52 M2, MSh.o25 M2, MSh.l25 M2, fd0, fd1, fd2, fd3, fd4, fd5, fd6, fd7, fd8, fd9, fd10, fd11, fd12, fd13, fd14, fd15, fd16, fd17, fd18, fd19, fd20, fd21, fd22, fd23, fd24, fd25, fd26, fd27, fd28, fd29, fd30, fd31, fd32, fd33, fd34, fd35, fd36, fd37, fd38, fd39, fd40, fd41, fd42, fd43, fd44, fd45, fd46, fd47, fd48, fd49, fd50, fd51, fd52, -Int.reduceToNat, -Int32.reduceToNatClampNeg, il0, il1, il2, il3, il4, il5, il6, il7, il8, il9, il10, il11, il12, il13, il14, il15, il16, il17, il18, il19, il20, il21, il22, il23, il24, il25, il26, il27, il28, il29, il30, il31, il32, il35, il36, il38, il40, il42, il43, il44, il45, il46, il47, il48, il49, il50, il51, il52, il57, il59, il60, il63, il64, il75, il80, il95, il96, il97, il98, il99, il100, il120, il122, il123, il127, il128, il135, il167, il175, il225, il249, il250, il255, il256, il360, il370, il384, il600, il700, il740, il900, il940, il1024, il1600, il4800, il64000, il125000, il262143, il1000000000, iI_toInt, iI_add, iI_sub, iI_mul, iI_neg, iI_lt, iI_le, iI_eq, iI_n, iI_in, iI_div, iI_mod, iI_shm, iI_and1, iI_and7, iI_and63, iI_shr3, iI_shr6, rd_I, ob, Option.some.injEq, exists_eq_left', exists_eq_left, true_and, and_true, fqI, fqJ, eq_self, true_or, or_true, bP_0, bP_0i, npP, bP_1i, bP_b, not_true_eq_false, not_false_eq_true, false_implies, true_implies, implies_true, Classical.not_not, and_self, w3, w2, w4, w5]
  intro h3 e3
  obtain ⟨f3, r3⟩ := wI (by omega) (by omega) (by omega) e3
  have M3 := M2.fr f3
  simp (disch := omega) only [MSh.o0 M3, MSh.p1 M3, MSh.o1 M3, MSh.l1 M3, MSh.p6 M3, MSh.o2 M3, MSh.l2 M3, MSh.p7 M3, MSh.o3 M3, MSh.l3 M3, MSh.p8 M3, MSh.o4 M3, MSh.l4 M3, MSh.p9 M3, MSh.o5 M3, MSh.l5 M3, MSh.p10 M3, MSh.o6 M3, MSh.l6 M3, MSh.p24 M3, MSh.o7 M3, MSh.l7 M3, MSh.p25 M3, MSh.o8 M3, MSh.l8 M3, MSh.p26 M3, MSh.o9 M3, MSh.l9 M3, MSh.p32 M3, MSh.o10 M3, MSh.l10 M3, MSh.p33 M3, MSh.o11 M3, MSh.l11 M3, MSh.p35 M3, MSh.o12 M3, MSh.l12 M3, MSh.p36 M3, MSh.o13 M3, MSh.l13 M3, MSh.p37 M3, MSh.o14 M3, MSh.l14 M3, MSh.p38 M3, MSh.o15 M3, MSh.l15 M3, MSh.p39 M3, MSh.o16 M3, MSh.l16 M3, MSh.p42 M3, MSh.o17 M3, MSh.l17 M3, MSh.p43 M3, MSh.o18 M3, MSh.l18 M3, MSh.p44 M3, MSh.o19 M3, MSh.l19 M3, MSh.p45 M3, MSh.o20 M3, MSh.l20 M3, MSh.p46 M3, MSh.o21 M3, MSh.l21 M3, MSh.p47 M3, MSh.o22 M3, MSh.l22 M3, MSh.p50 M3, MSh.o23 M3, MSh.l23 M3, MSh.p51 M3, MSh.o24 M3, MSh.l24 M3, MSh.p52 M3, MSh.o25 M3, MSh.l25 M3, fd0, fd1, fd2, fd3, fd4, fd5, fd6, fd7, fd8, fd9, fd10, fd11, fd12, fd13, fd14, fd15, fd16, fd17, fd18, fd19, fd20, fd21, fd22, fd23, fd24, fd25, fd26, fd27, fd28, fd29, fd30, fd31, fd32, fd33, fd34, fd35, fd36, fd37, fd38, fd39, fd40, fd41, fd42, fd43, fd44, fd45, fd46, fd47, fd48, fd49, fd50, fd51, fd52, -Int.reduceToNat, -Int32.reduceToNatClampNeg, il0, il1, il2, il3, il4, il5, il6, il7, il8, il9, il10, il11, il12, il13, il14, il15, il16, il17, il18, il19, il20, il21, il22, il23, il24, il25, il26, il27, il28, il29, il30, il31, il32, il35, il36, il38, il40, il42, il43, il44, il45, il46, il47, il48, il49, il50, il51, il52, il57, il59, il60, il63, il64, il75, il80, il95, il96, il97, il98, il99, il100, il120, il122, il123, il127, il128, il135, il167, il175, il225, il249, il250, il255, il256, il360, il370, il384, il600, il700, il740, il900, il940, il1024, il1600, il4800, il64000, il125000, il262143, il1000000000, iI_toInt, iI_add, iI_sub, iI_mul, iI_neg, iI_lt, iI_le, iI_eq, iI_n, iI_in, iI_div, iI_mod, iI_shm, iI_and1, iI_and7, iI_and63, iI_shr3, iI_shr6, rd_I, ob, Option.some.injEq, exists_eq_left', exists_eq_left, true_and, and_true, fqI, fqJ, eq_self, true_or, or_true, bP_0, bP_0i, npP, bP_1i, bP_b, not_true_eq_false, not_false_eq_true, false_implies, true_implies, implies_true, Classical.not_not, and_self, w3, w2, w4, w5]
  intro h4 e4
  obtain ⟨f4, r4⟩ := wI (by omega) (by omega) (by omega) e4
  refine k h4 (f1.trans (f2.trans (f3.trans f4))) (fun i hi => ?_) ?_ ?_ ?_ ?_
  · simp only [List.mem_cons, List.not_mem_nil, or_false, not_or] at hi
    rw [r4, updT_n hi.2.2.2, r3, updT_n hi.2.2.1, r2, updT_n hi.1, r1, updT_n hi.2.1]
  · rw [r4, updT_n (by omega), r3, updT_n (by omega), r2, updT_n (by omega), r1, updT_s]
  · rw [r4, updT_n (by omega), r3, updT_n (by omega), r2, updT_s]
  · rw [r4, updT_n (by omega), r3, updT_s]
  · rw [r4, updT_s]
theorem m_octet (M : MSh h) (h1 : 0 ≤ a) (h2 : a < 940) : wp_X12_octet h 92 (iI a) post ↔ post h (iI (rd h 93 a % 256)) := by
  unfold wp_X12_octet
  simp (disch := omega) only [MSh.o0 M, MSh.p1 M, MSh.o1 M, MSh.l1 M, MSh.p6 M, MSh.o2 M, MSh.l2 M, MSh.p7 M, MSh.o3 M, MSh.l3 M, MSh.p8 M, MSh.o4 M, MSh.l4 M, MSh.p9 M, MSh.o5 M, MSh.l5 M, MSh.p10 M, MSh.o6 M, MSh.l6 M, MSh.p24 M, MSh.o7 M, MSh.l7 M, MSh.p25 M, MSh.o8 M, MSh.l8 M, MSh.p26 M, MSh.o9 M, MSh.l9 M, MSh.p32 M, MSh.o10 M, MSh.l10 M, MSh.p33 M, MSh.o11 M, MSh.l11 M, MSh.p35 M, MSh.o12 M, MSh.l12 M, MSh.p36 M, MSh.o13 M, MSh.l13 M, MSh.p37 M, MSh.o14 M, MSh.l14 M, MSh.p38 M, MSh.o15 M, MSh.l15 M, MSh.p39 M, MSh.o16 M, MSh.l16 M, MSh.p42 M, MSh.o17 M, MSh.l17 M, MSh.p43 M, MSh.o18 M, MSh.l18 M, MSh.p44 M, MSh.o19 M, MSh.l19 M, MSh.p45 M, MSh.o20 M, MSh.l20 M, MSh.p46 M, MSh.o21 M, MSh.l21 M, MSh.p47 M, MSh.o22 M, MSh.l22 M, MSh.p50 M, MSh.o23 M, MSh.l23 M, MSh.p51 M, MSh.o24 M, MSh.l24 M, MSh.p52 M, MSh.o25 M, MSh.l25 M, -Int.reduceToNat, -Int32.reduceToNatClampNeg, il0, il1, il2, il3, il4, il5, il6, il7, il8, il9, il10, il11, il12, il13, il14, il15, il16, il17, il18, il19, il20, il21, il22, il23, il24, il25, il26, il27, il28, il29, il30, il31, il32, il35, il36, il38, il40, il42, il43, il44, il45, il46, il47, il48, il49, il50, il51, il52, il57, il59, il60, il63, il64, il75, il80, il95, il96, il97, il98, il99, il100, il120, il122, il123, il127, il128, il135, il167, il175, il225, il249, il250, il255, il256, il360, il370, il384, il600, il700, il740, il900, il940, il1024, il1600, il4800, il64000, il125000, il262143, il1000000000, iI_toInt, iI_add, iI_sub, iI_mul, iI_neg, iI_lt, iI_le, iI_eq, iI_n, iI_in, iI_div, iI_mod, iI_shm, iI_and1, iI_and7, iI_and63, iI_shr3, iI_shr6, rd_I, ob, Option.some.injEq, exists_eq_left', exists_eq_left, true_and, and_true, fqI, fqJ, eq_self, true_or, or_true, bP_0, bP_0i, npP, bP_1i, bP_b, not_true_eq_false, not_false_eq_true, false_implies, true_implies, implies_true, Classical.not_not, and_self, iI_and255]
theorem m_takesTown {s : Int → Int} (M : MSh h) (es : rd h 94 = s) (hG : SOk s) (hZ : ∀ r, 0 ≤ r → r < s 2 → Z1 (zS s) r) (hl : 0 ≤ rd h 92 2 ∧ rd h 92 2 ≤ 940)
    (k : ∀ h', Fr [92, 99, 100] [] [] h h' → MF [2, 3, 4, 5] h h' → rd h' 92 2 = 0 → EZ (rd h' 100) s → (∀ i, 0 ≤ i → i < 24 → (rd h 92 2 = 3 * s 2 ∧ ByOk s (fun i => rd h 93 i % 256)) → rd h' 99 i = byT s (fun i => rd h 93 i % 256) i) → post h' (bP (rd h 92 2 = 3 * s 2 ∧ ByOk s (fun i => rd h 93 i % 256) ∧ townT s (byT s (fun i => rd h 93 i % 256)) (zS s)))) : wp_X12_takesTown h 92 post := by
  have hG' := hG
  obtain ⟨hS, n0, n1, n2, n3, n4, n5, hK, hW⟩ := hG
  have s2 := hS 2 (by omega) (by omega)
  unfold wp_X12_takesTown
  simp (disch := omega) only [MSh.o0 M, MSh.p1 M, MSh.o1 M, MSh.l1 M, MSh.p6 M, MSh.o2 M, MSh.l2 M, MSh.p7 M, MSh.o3 M, MSh.l3 M, MSh.p8 M, MSh.o4 M, MSh.l4 M, MSh.p9 M, MSh.o5 M, MSh.l5 M, MSh.p10 M, MSh.o6 M, MSh.l6 M, MSh.p24 M, MSh.o7 M, MSh.l7 M, MSh.p25 M, MSh.o8 M, MSh.l8 M, MSh.p26 M, MSh.o9 M, MSh.l9 M, MSh.p32 M, MSh.o10 M, MSh.l10 M, MSh.p33 M, MSh.o11 M, MSh.l11 M, MSh.p35 M, MSh.o12 M, MSh.l12 M, MSh.p36 M, MSh.o13 M, MSh.l13 M, MSh.p37 M, MSh.o14 M, MSh.l14 M, MSh.p38 M, MSh.o15 M, MSh.l15 M, MSh.p39 M, MSh.o16 M, MSh.l16 M, MSh.p42 M, MSh.o17 M, MSh.l17 M, MSh.p43 M, MSh.o18 M, MSh.l18 M, MSh.p44 M, MSh.o19 M, MSh.l19 M, MSh.p45 M, MSh.o20 M, MSh.l20 M, MSh.p46 M, MSh.o21 M, MSh.l21 M, MSh.p47 M, MSh.o22 M, MSh.l22 M, MSh.p50 M, MSh.o23 M, MSh.l23 M, MSh.p51 M, MSh.o24 M, MSh.l24 M, MSh.p52 M, MSh.o25 M, MSh.l25 M, -Int.reduceToNat, -Int32.reduceToNatClampNeg, il0, il1, il2, il3, il4, il5, il6, il7, il8, il9, il10, il11, il12, il13, il14, il15, il16, il17, il18, il19, il20, il21, il22, il23, il24, il25, il26, il27, il28, il29, il30, il31, il32, il35, il36, il38, il40, il42, il43, il44, il45, il46, il47, il48, il49, il50, il51, il52, il57, il59, il60, il63, il64, il75, il80, il95, il96, il97, il98, il99, il100, il120, il122, il123, il127, il128, il135, il167, il175, il225, il249, il250, il255, il256, il360, il370, il384, il600, il700, il740, il900, il940, il1024, il1600, il4800, il64000, il125000, il262143, il1000000000, ob, Option.some.injEq, exists_eq_left', exists_eq_left, true_and, and_true, fqI, fqJ, eq_self, true_or, or_true, bP_0, bP_0i, npP, bP_1i, bP_b, not_true_eq_false, not_false_eq_true, false_implies, true_implies, implies_true, Classical.not_not, and_self]
  refine m_taken M hl (by omega) fun h1 f1 m1 e3 e2 e4 e5 => ?_
  have M1 := M.fr f1
  simp (disch := omega) only [MSh.o0 M1, MSh.p1 M1, MSh.o1 M1, MSh.l1 M1, MSh.p6 M1, MSh.o2 M1, MSh.l2 M1, MSh.p7 M1, MSh.o3 M1, MSh.l3 M1, MSh.p8 M1, MSh.o4 M1, MSh.l4 M1, MSh.p9 M1, MSh.o5 M1, MSh.l5 M1, MSh.p10 M1, MSh.o6 M1, MSh.l6 M1, MSh.p24 M1, MSh.o7 M1, MSh.l7 M1, MSh.p25 M1, MSh.o8 M1, MSh.l8 M1, MSh.p26 M1, MSh.o9 M1, MSh.l9 M1, MSh.p32 M1, MSh.o10 M1, MSh.l10 M1, MSh.p33 M1, MSh.o11 M1, MSh.l11 M1, MSh.p35 M1, MSh.o12 M1, MSh.l12 M1, MSh.p36 M1, MSh.o13 M1, MSh.l13 M1, MSh.p37 M1, MSh.o14 M1, MSh.l14 M1, MSh.p38 M1, MSh.o15 M1, MSh.l15 M1, MSh.p39 M1, MSh.o16 M1, MSh.l16 M1, MSh.p42 M1, MSh.o17 M1, MSh.l17 M1, MSh.p43 M1, MSh.o18 M1, MSh.l18 M1, MSh.p44 M1, MSh.o19 M1, MSh.l19 M1, MSh.p45 M1, MSh.o20 M1, MSh.l20 M1, MSh.p46 M1, MSh.o21 M1, MSh.l21 M1, MSh.p47 M1, MSh.o22 M1, MSh.l22 M1, MSh.p50 M1, MSh.o23 M1, MSh.l23 M1, MSh.p51 M1, MSh.o24 M1, MSh.l24 M1, MSh.p52 M1, MSh.o25 M1, MSh.l25 M1, -Int.reduceToNat, -Int32.reduceToNatClampNeg, il0, il1, il2, il3, il4, il5, il6, il7, il8, il9, il10, il11, il12, il13, il14, il15, il16, il17, il18, il19, il20, il21, il22, il23, il24, il25, il26, il27, il28, il29, il30, il31, il32, il35, il36, il38, il40, il42, il43, il44, il45, il46, il47, il48, il49, il50, il51, il52, il57, il59, il60, il63, il64, il75, il80, il95, il96, il97, il98, il99, il100, il120, il122, il123, il127, il128, il135, il167, il175, il225, il249, il250, il255, il256, il360, il370, il384, il600, il700, il740, il900, il940, il1024, il1600, il4800, il64000, il125000, il262143, il1000000000, ob, Option.some.injEq, exists_eq_left', exists_eq_left, true_and, and_true, fqI, fqJ, eq_self, true_or, or_true, bP_0, bP_0i, npP, bP_1i, bP_b, not_true_eq_false, not_false_eq_true, false_implies, true_implies, implies_true, Classical.not_not, and_self]
  refine m_asItIs M1 fun hb fb tb zb' => ?_
  have Mb := M1.fr fb
  have es1 : rd h1 94 = s := by rw [f1.row (by decide), es]
  have esb : rd hb 94 = s := by rw [fb.row (by decide), es1]
  rw [es1] at tb zb'
  have e92 : rd hb 92 = rd h1 92 := fb.row (by decide)
  have F0 : Fr [92, 99, 100] [] [] h hb := (f1.mono (by simp) (by simp) (by simp)).trans (fb.mono (by simp) (by simp) (by simp))
  have szb : rd hb 92 3 = rd h 92 2 := by rw [e92, e3]
  simp (disch := omega) only [MSh.o0 Mb, MSh.p1 Mb, MSh.o1 Mb, MSh.l1 Mb, MSh.p6 Mb, MSh.o2 Mb, MSh.l2 Mb, MSh.p7 Mb, MSh.o3 Mb, MSh.l3 Mb, MSh.p8 Mb, MSh.o4 Mb, MSh.l4 Mb, MSh.p9 Mb, MSh.o5 Mb, MSh.l5 Mb, MSh.p10 Mb, MSh.o6 Mb, MSh.l6 Mb, MSh.p24 Mb, MSh.o7 Mb, MSh.l7 Mb, MSh.p25 Mb, MSh.o8 Mb, MSh.l8 Mb, MSh.p26 Mb, MSh.o9 Mb, MSh.l9 Mb, MSh.p32 Mb, MSh.o10 Mb, MSh.l10 Mb, MSh.p33 Mb, MSh.o11 Mb, MSh.l11 Mb, MSh.p35 Mb, MSh.o12 Mb, MSh.l12 Mb, MSh.p36 Mb, MSh.o13 Mb, MSh.l13 Mb, MSh.p37 Mb, MSh.o14 Mb, MSh.l14 Mb, MSh.p38 Mb, MSh.o15 Mb, MSh.l15 Mb, MSh.p39 Mb, MSh.o16 Mb, MSh.l16 Mb, MSh.p42 Mb, MSh.o17 Mb, MSh.l17 Mb, MSh.p43 Mb, MSh.o18 Mb, MSh.l18 Mb, MSh.p44 Mb, MSh.o19 Mb, MSh.l19 Mb, MSh.p45 Mb, MSh.o20 Mb, MSh.l20 Mb, MSh.p46 Mb, MSh.o21 Mb, MSh.l21 Mb, MSh.p47 Mb, MSh.o22 Mb, MSh.l22 Mb, MSh.p50 Mb, MSh.o23 Mb, MSh.l23 Mb, MSh.p51 Mb, MSh.o24 Mb, MSh.l24 Mb, MSh.p52 Mb, MSh.o25 Mb, MSh.l25 Mb, fd0, fd1, fd2, fd3, fd4, fd5, fd6, fd7, fd8, fd9, fd10, fd11, fd12, fd13, fd14, fd15, fd16, fd17, fd18, fd19, fd20, fd21, fd22, fd23, fd24, fd25, fd26, fd27, fd28, fd29, fd30, fd31, fd32, fd33, fd34, fd35, fd36, fd37, fd38, fd39, fd40, fd41, fd42, fd43, fd44, fd45, fd46, fd47, fd48, fd49, fd50, fd51, fd52, -Int.reduceToNat, -Int32.reduceToNatClampNeg, il0, il1, il2, il3, il4, il5, il6, il7, il8, il9, il10, il11, il12, il13, il14, il15, il16, il17, il18, il19, il20, il21, il22, il23, il24, il25, il26, il27, il28, il29, il30, il31, il32, il35, il36, il38, il40, il42, il43, il44, il45, il46, il47, il48, il49, il50, il51, il52, il57, il59, il60, il63, il64, il75, il80, il95, il96, il97, il98, il99, il100, il120, il122, il123, il127, il128, il135, il167, il175, il225, il249, il250, il255, il256, il360, il370, il384, il600, il700, il740, il900, il940, il1024, il1600, il4800, il64000, il125000, il262143, il1000000000, iI_toInt, iI_add, iI_sub, iI_mul, iI_neg, iI_lt, iI_le, iI_eq, iI_n, iI_in, iI_div, iI_mod, iI_shm, iI_and1, iI_and7, iI_and63, iI_shr3, iI_shr6, rd_I, ob, Option.some.injEq, exists_eq_left', exists_eq_left, true_and, and_true, fqI, fqJ, eq_self, true_or, or_true, bP_0, bP_0i, npP, bP_1i, bP_b, not_true_eq_false, not_false_eq_true, false_implies, true_implies, implies_true, Classical.not_not, and_self, esb, szb, cP, cP', ite_n]
  by_cases cl : rd h 92 2 = 3 * s 2
  case neg =>
    rw [ite_f cl, ← bP_f (P := rd h 92 2 = 3 * s 2 ∧ ByOk s (fun i => rd h 93 i % 256) ∧ townT s (byT s (fun i => rd h 93 i % 256)) (zS s)) (fun q => cl q.1)]
    exact k hb F0 (fun i hi => by rw [e92, m1 i hi]) (by rw [e92, e2]) zb' (fun i _ _ q => absurd q.1 cl)
  rw [ite_t cl]
  refine lf_for (W := fun n (g : AH) i => wl_X12_takesTown_30 post n g 92 (iI i)) (lo := 0) (hi := 3 * s 2) (fun i g => Fr [99] [] [] hb g ∧ (∀ j, 0 ≤ j → j < i → rd g 99 j = byT s (fun i => rd h 93 i % 256) j) ∧ (∀ j, i ≤ j → j < 24 → rd g 99 j = s (225 + j)) ∧ (∀ r, 0 ≤ r → 3 * r + 2 < i → rd h 93 (3 * r + 2) % 256 ≤ 1)) (by omega) ?_ ?_ hb ⟨(Fr.refl hb).mono (by simp) (by simp) (by simp), fun j j1 j2 => by omega, fun j j1 j2 => tb j j1 j2, fun r r1 r2 => by omega⟩
  · intro n g i i1 i2 hg kk
    obtain ⟨fg, t1, t2, t3⟩ := hg
    have Mg := Mb.fr fg
    have g92 : rd g 92 3 = 3 * s 2 := by rw [fg.row (by decide), szb, cl]
    have g93 : rd g 93 = rd h 93 := by rw [fg.row (by decide), fb.row (by decide), f1.row (by decide)]
    have g100 : ∀ j, 0 ≤ j → j < 24 → rd g 100 j = s (99 + j) := fun j j1 j2 => by rw [fg.row (by decide), zb' j j1 j2]
    show wb_X12_takesTown_30 (wl_X12_takesTown_30 post n) g 92 (iI i) post
    have b256 : 0 ≤ rd h 93 i % 256 ∧ rd h 93 i % 256 < 256 := by omega
    unfold wb_X12_takesTown_30 wb_X12_takesTown_105 wb_X12_takesTown_106
    simp (disch := omega) only [MSh.o0 Mg, MSh.p1 Mg, MSh.o1 Mg, MSh.l1 Mg, MSh.p6 Mg, MSh.o2 Mg, MSh.l2 Mg, MSh.p7 Mg, MSh.o3 Mg, MSh.l3 Mg, MSh.p8 Mg, MSh.o4 Mg, MSh.l4 Mg, MSh.p9 Mg, MSh.o5 Mg, MSh.l5 Mg, MSh.p10 Mg, MSh.o6 Mg, MSh.l6 Mg, MSh.p24 Mg, MSh.o7 Mg, MSh.l7 Mg, MSh.p25 Mg, MSh.o8 Mg, MSh.l8 Mg, MSh.p26 Mg, MSh.o9 Mg, MSh.l9 Mg, MSh.p32 Mg, MSh.o10 Mg, MSh.l10 Mg, MSh.p33 Mg, MSh.o11 Mg, MSh.l11 Mg, MSh.p35 Mg, MSh.o12 Mg, MSh.l12 Mg, MSh.p36 Mg, MSh.o13 Mg, MSh.l13 Mg, MSh.p37 Mg, MSh.o14 Mg, MSh.l14 Mg, MSh.p38 Mg, MSh.o15 Mg, MSh.l15 Mg, MSh.p39 Mg, MSh.o16 Mg, MSh.l16 Mg, MSh.p42 Mg, MSh.o17 Mg, MSh.l17 Mg, MSh.p43 Mg, MSh.o18 Mg, MSh.l18 Mg, MSh.p44 Mg, MSh.o19 Mg, MSh.l19 Mg, MSh.p45 Mg, MSh.o20 Mg, MSh.l20 Mg, MSh.p46 Mg, MSh.o21 Mg, MSh.l21 Mg, MSh.p47 Mg, MSh.o22 Mg, MSh.l22 Mg, MSh.p50 Mg, MSh.o23 Mg, MSh.l23 Mg, MSh.p51 Mg, MSh.o24 Mg, MSh.l24 Mg, MSh.p52 Mg, MSh.o25 Mg, MSh.l25 Mg, fd0, fd1, fd2, fd3, fd4, fd5, fd6, fd7, fd8, fd9, fd10, fd11, fd12, fd13, fd14, fd15, fd16, fd17, fd18, fd19, fd20, fd21, fd22, fd23, fd24, fd25, fd26, fd27, fd28, fd29, fd30, fd31, fd32, fd33, fd34, fd35, fd36, fd37, fd38, fd39, fd40, fd41, fd42, fd43, fd44, fd45, fd46, fd47, fd48, fd49, fd50, fd51, fd52, -Int.reduceToNat, -Int32.reduceToNatClampNeg, il0, il1, il2, il3, il4, il5, il6, il7, il8, il9, il10, il11, il12, il13, il14, il15, il16, il17, il18, il19, il20, il21, il22, il23, il24, il25, il26, il27, il28, il29, il30, il31, il32, il35, il36, il38, il40, il42, il43, il44, il45, il46, il47, il48, il49, il50, il51, il52, il57, il59, il60, il63, il64, il75, il80, il95, il96, il97, il98, il99, il100, il120, il122, il123, il127, il128, il135, il167, il175, il225, il249, il250, il255, il256, il360, il370, il384, il600, il700, il740, il900, il940, il1024, il1600, il4800, il64000, il125000, il262143, il1000000000, iI_toInt, iI_add, iI_sub, iI_mul, iI_neg, iI_lt, iI_le, iI_eq, iI_n, iI_in, iI_div, iI_mod, iI_shm, iI_and1, iI_and7, iI_and63, iI_shr3, iI_shr6, rd_I, ob, Option.some.injEq, exists_eq_left', exists_eq_left, true_and, and_true, fqI, fqJ, eq_self, true_or, or_true, bP_0, bP_0i, npP, bP_1i, bP_b, not_true_eq_false, not_false_eq_true, false_implies, true_implies, implies_true, Classical.not_not, and_self, g92, m_octet Mg, cP, cP', ite_n, ite_T, ite_F, ite_t, ite_f, g93]
    intro h6 e6
    obtain ⟨f6, r6⟩ := wI (by omega) (by omega) (by omega) e6
    have M6 := Mg.fr f6
    have v6 : rd h6 99 i = rd h 93 i % 256 := by rw [r6, updT_s]
    have h100 : ∀ j, 0 ≤ j → j < 24 → rd h6 100 j = s (99 + j) := fun j j1 j2 => by rw [f6.row (by decide), g100 j j1 j2]
    have i24 : i < 24 := by omega
    simp (disch := omega) only [MSh.o0 M6, MSh.p1 M6, MSh.o1 M6, MSh.l1 M6, MSh.p6 M6, MSh.o2 M6, MSh.l2 M6, MSh.p7 M6, MSh.o3 M6, MSh.l3 M6, MSh.p8 M6, MSh.o4 M6, MSh.l4 M6, MSh.p9 M6, MSh.o5 M6, MSh.l5 M6, MSh.p10 M6, MSh.o6 M6, MSh.l6 M6, MSh.p24 M6, MSh.o7 M6, MSh.l7 M6, MSh.p25 M6, MSh.o8 M6, MSh.l8 M6, MSh.p26 M6, MSh.o9 M6, MSh.l9 M6, MSh.p32 M6, MSh.o10 M6, MSh.l10 M6, MSh.p33 M6, MSh.o11 M6, MSh.l11 M6, MSh.p35 M6, MSh.o12 M6, MSh.l12 M6, MSh.p36 M6, MSh.o13 M6, MSh.l13 M6, MSh.p37 M6, MSh.o14 M6, MSh.l14 M6, MSh.p38 M6, MSh.o15 M6, MSh.l15 M6, MSh.p39 M6, MSh.o16 M6, MSh.l16 M6, MSh.p42 M6, MSh.o17 M6, MSh.l17 M6, MSh.p43 M6, MSh.o18 M6, MSh.l18 M6, MSh.p44 M6, MSh.o19 M6, MSh.l19 M6, MSh.p45 M6, MSh.o20 M6, MSh.l20 M6, MSh.p46 M6, MSh.o21 M6, MSh.l21 M6, MSh.p47 M6, MSh.o22 M6, MSh.l22 M6, MSh.p50 M6, MSh.o23 M6, MSh.l23 M6, MSh.p51 M6, MSh.o24 M6, MSh.l24 M6, MSh.p52 M6, MSh.o25 M6, MSh.l25 M6, fd0, fd1, fd2, fd3, fd4, fd5, fd6, fd7, fd8, fd9, fd10, fd11, fd12, fd13, fd14, fd15, fd16, fd17, fd18, fd19, fd20, fd21, fd22, fd23, fd24, fd25, fd26, fd27, fd28, fd29, fd30, fd31, fd32, fd33, fd34, fd35, fd36, fd37, fd38, fd39, fd40, fd41, fd42, fd43, fd44, fd45, fd46, fd47, fd48, fd49, fd50, fd51, fd52, -Int.reduceToNat, -Int32.reduceToNatClampNeg, il0, il1, il2, il3, il4, il5, il6, il7, il8, il9, il10, il11, il12, il13, il14, il15, il16, il17, il18, il19, il20, il21, il22, il23, il24, il25, il26, il27, il28, il29, il30, il31, il32, il35, il36, il38, il40, il42, il43, il44, il45, il46, il47, il48, il49, il50, il51, il52, il57, il59, il60, il63, il64, il75, il80, il95, il96, il97, il98, il99, il100, il120, il122, il123, il127, il128, il135, il167, il175, il225, il249, il250, il255, il256, il360, il370, il384, il600, il700, il740, il900, il940, il1024, il1600, il4800, il64000, il125000, il262143, il1000000000, iI_toInt, iI_add, iI_sub, iI_mul, iI_neg, iI_lt, iI_le, iI_eq, iI_n, iI_in, iI_div, iI_mod, iI_shm, iI_and1, iI_and7, iI_and63, iI_shr3, iI_shr6, rd_I, ob, Option.some.injEq, exists_eq_left', exists_eq_left, true_and, and_true, fqI, fqJ, eq_self, true_or, or_true, bP_0, bP_0i, npP, bP_1i, bP_b, not_true_eq_false, not_false_eq_true, false_implies, true_implies, implies_true, Classical.not_not, and_self, v6, cP, cP', ite_n]
    have em : i - i / 3 * 3 = i % 3 := by omega
    rw [em]
    by_cases cm : 2 ≤ i % 3
    case neg =>
      rw [ite_f cm]
      refine kk h6 ⟨fg.trans f6, fun j j1 j2 => ?_, fun j j1 j2 => ?_, fun r r1 r2 => t3 r r1 (by omega)⟩
      · rw [r6]
        by_cases ce : j = i
        · subst ce
          rw [updT_s]
          unfold byT
          rw [if_pos i2, if_neg (by omega)]
        · rw [updT_n ce, t1 j j1 (by omega)]
      · rw [r6, updT_n (by omega), t2 j (by omega) j2]
    rw [ite_t cm]
    by_cases c1 : rd h 93 i % 256 ≤ 1
    case neg =>
      rw [ite_f c1]
      have hno : ¬ ByOk s (fun i => rd h 93 i % 256) := fun q => by
        have := q ((i - 2) / 3) (by omega) (by omega)
        rw [show 3 * ((i - 2) / 3) + 2 = i by omega] at this
        exact c1 this
      rw [← bP_f (P := rd h 92 2 = 3 * s 2 ∧ ByOk s (fun i => rd h 93 i % 256) ∧ townT s (byT s (fun i => rd h 93 i % 256)) (zS s)) (fun q => hno q.2.1)]
      have f66 := (fg.trans f6).mono (wi' := [92, 99, 100]) (wj' := []) (wq' := []) (by simp) (by simp) (by simp)
      have e926 : rd h6 92 = rd h1 92 := by rw [f6.row (by decide), fg.row (by decide), e92]
      exact k h6 (F0.trans f66) (fun i hi => by rw [e926, m1 i hi]) (by rw [e926, e2]) h100 (fun i _ _ q => absurd q.2 hno)
    rw [ite_t c1]
    have q1 := h100 (i - 2) (by omega) (by omega)
    have q2 := h100 (i - 1) (by omega) (by omega)
    have q1b := hS (99 + (i - 2)) (by omega) (by omega)
    have q2b := hS (99 + (i - 1)) (by omega) (by omega)
    have fin : ∀ v : Int, 0 ≤ v → v ≤ 1 → byT s (fun i => rd h 93 i % 256) i = v → ∀ h7, h7 = hI h6 99 i.toNat (iI v) → wl_X12_takesTown_30 post n h7 92 (iI (i + 1)) := by
      intro v v1 v2 ev h7 e7
      obtain ⟨f7, r7⟩ := wI (by omega) (by omega) (by omega) e7
      refine kk h7 ⟨fg.trans (f6.trans f7), fun j j1 j2 => ?_, fun j j1 j2 => ?_, fun r r1 r2 => ?_⟩
      · rw [r7]
        by_cases ce : j = i
        · subst ce
          rw [updT_s, ev]
        · rw [updT_n ce, r6, updT_n ce, t1 j j1 (by omega)]
      · rw [r7, updT_n (by omega), r6, updT_n (by omega), t2 j (by omega) j2]
      · by_cases ce : 3 * r + 2 = i
        · rw [ce]; exact c1
        · exact t3 r r1 (by omega)
    simp (disch := omega) only [MSh.o0 M6, MSh.p1 M6, MSh.o1 M6, MSh.l1 M6, MSh.p6 M6, MSh.o2 M6, MSh.l2 M6, MSh.p7 M6, MSh.o3 M6, MSh.l3 M6, MSh.p8 M6, MSh.o4 M6, MSh.l4 M6, MSh.p9 M6, MSh.o5 M6, MSh.l5 M6, MSh.p10 M6, MSh.o6 M6, MSh.l6 M6, MSh.p24 M6, MSh.o7 M6, MSh.l7 M6, MSh.p25 M6, MSh.o8 M6, MSh.l8 M6, MSh.p26 M6, MSh.o9 M6, MSh.l9 M6, MSh.p32 M6, MSh.o10 M6, MSh.l10 M6, MSh.p33 M6, MSh.o11 M6, MSh.l11 M6, MSh.p35 M6, MSh.o12 M6, MSh.l12 M6, MSh.p36 M6, MSh.o13 M6, MSh.l13 M6, MSh.p37 M6, MSh.o14 M6, MSh.l14 M6, MSh.p38 M6, MSh.o15 M6, MSh.l15 M6, MSh.p39 M6, MSh.o16 M6, MSh.l16 M6, MSh.p42 M6, MSh.o17 M6, MSh.l17 M6, MSh.p43 M6, MSh.o18 M6, MSh.l18 M6, MSh.p44 M6, MSh.o19 M6, MSh.l19 M6, MSh.p45 M6, MSh.o20 M6, MSh.l20 M6, MSh.p46 M6, MSh.o21 M6, MSh.l21 M6, MSh.p47 M6, MSh.o22 M6, MSh.l22 M6, MSh.p50 M6, MSh.o23 M6, MSh.l23 M6, MSh.p51 M6, MSh.o24 M6, MSh.l24 M6, MSh.p52 M6, MSh.o25 M6, MSh.l25 M6, fd0, fd1, fd2, fd3, fd4, fd5, fd6, fd7, fd8, fd9, fd10, fd11, fd12, fd13, fd14, fd15, fd16, fd17, fd18, fd19, fd20, fd21, fd22, fd23, fd24, fd25, fd26, fd27, fd28, fd29, fd30, fd31, fd32, fd33, fd34, fd35, fd36, fd37, fd38, fd39, fd40, fd41, fd42, fd43, fd44, fd45, fd46, fd47, fd48, fd49, fd50, fd51, fd52, -Int.reduceToNat, -Int32.reduceToNatClampNeg, il0, il1, il2, il3, il4, il5, il6, il7, il8, il9, il10, il11, il12, il13, il14, il15, il16, il17, il18, il19, il20, il21, il22, il23, il24, il25, il26, il27, il28, il29, il30, il31, il32, il35, il36, il38, il40, il42, il43, il44, il45, il46, il47, il48, il49, il50, il51, il52, il57, il59, il60, il63, il64, il75, il80, il95, il96, il97, il98, il99, il100, il120, il122, il123, il127, il128, il135, il167, il175, il225, il249, il250, il255, il256, il360, il370, il384, il600, il700, il740, il900, il940, il1024, il1600, il4800, il64000, il125000, il262143, il1000000000, iI_toInt, iI_add, iI_sub, iI_mul, iI_neg, iI_lt, iI_le, iI_eq, iI_n, iI_in, iI_div, iI_mod, iI_shm, iI_and1, iI_and7, iI_and63, iI_shr3, iI_shr6, rd_I, ob, Option.some.injEq, exists_eq_left', exists_eq_left, true_and, and_true, fqI, fqJ, eq_self, true_or, or_true, bP_0, bP_0i, npP, bP_1i, bP_b, not_true_eq_false, not_false_eq_true, false_implies, true_implies, implies_true, Classical.not_not, and_self, v6, q1, q2, cP, cP', ite_n]
    by_cases cz : s (99 + (i - 2)) = s (99 + (i - 1))
    · rw [ite_t cz]
      exact fin 0 (by omega) (by omega) (by unfold byT; rw [if_pos i2, if_pos (by omega), if_pos cz])
    · rw [ite_f cz]
      exact fin _ (by omega) c1 (by unfold byT; rw [if_pos i2, if_pos (by omega), if_neg cz])
  · intro n g hg
    obtain ⟨fg, t1, t2, t3⟩ := hg
    have Mg := Mb.fr fg
    have g92 : rd g 92 3 = 3 * s 2 := by rw [fg.row (by decide), szb, cl]
    have g94 : rd g 94 = s := by rw [fg.row (by decide), esb]
    have g100 : ∀ j, 0 ≤ j → j < 24 → rd g 100 j = s (99 + j) := fun j j1 j2 => by rw [fg.row (by decide), zb' j j1 j2]
    have tall : ∀ j, 0 ≤ j → j < 24 → rd g 99 j = byT s (fun i => rd h 93 i % 256) j := fun j j1 j2 => by
      by_cases c : j < 3 * s 2
      · exact t1 j j1 c
      · rw [t2 j (by omega) j2]
        unfold byT
        rw [if_neg c]
    have hby : ByOk s (fun i => rd h 93 i % 256) := fun r r1 r2 => t3 r r1 (by omega)
    have hu : ∀ r, 0 ≤ r → r < s 2 → 0 ≤ byT s (fun i => rd h 93 i % 256) (3 * r + 2) ∧ byT s (fun i => rd h 93 i % 256) (3 * r + 2) ≤ 1 := fun r r1 r2 => by
      have := hby r r1 r2
      have h0 : 0 ≤ rd h 93 (3 * r + 2) % 256 := by omega
      unfold byT
      rw [if_pos (by omega), if_pos (by omega)]
      split
      · omega
      · exact ⟨h0, this⟩
    have hbd : ∀ j, 0 ≤ j → j < 24 → 0 ≤ byT s (fun i => rd h 93 i % 256) j ∧ byT s (fun i => rd h 93 i % 256) j ≤ 255 := fun j j1 j2 => by
      have h0 : 0 ≤ rd h 93 j % 256 ∧ rd h 93 j % 256 ≤ 255 := by omega
      have := hS (225 + j) (by omega) (by omega)
      unfold byT
      (repeat' split) <;> omega
    have hA : ∀ o, 0 ≤ o → o < rd g 94 2 → RBd (rd g 99) (rd g 100) o := fun o o1 o2 => by
      rw [g94] at o2
      have b0 := hbd (3 * o) (by omega) (by omega)
      have b1 := hbd (3 * o + 1) (by omega) (by omega)
      have b2 := hu o o1 o2
      have z := hZ o o1 o2
      unfold Z1 zS at z
      refine RBd.of ⟨?_, ?_, ?_⟩ ?_
      · rw [tall _ (by omega) (by omega)]; omega
      · rw [tall _ (by omega) (by omega)]; omega
      · rw [tall _ (by omega) (by omega)]; exact b2
      · unfold Z1
        rw [g100 _ (by omega) (by omega), g100 _ (by omega) (by omega)]
        exact z
    show wb_X12_takesTown_30 (wl_X12_takesTown_30 post n) g 92 (iI _) post
    unfold wb_X12_takesTown_30
    simp (disch := omega) only [MSh.o0 Mg, MSh.p1 Mg, MSh.o1 Mg, MSh.l1 Mg, MSh.p6 Mg, MSh.o2 Mg, MSh.l2 Mg, MSh.p7 Mg, MSh.o3 Mg, MSh.l3 Mg, MSh.p8 Mg, MSh.o4 Mg, MSh.l4 Mg, MSh.p9 Mg, MSh.o5 Mg, MSh.l5 Mg, MSh.p10 Mg, MSh.o6 Mg, MSh.l6 Mg, MSh.p24 Mg, MSh.o7 Mg, MSh.l7 Mg, MSh.p25 Mg, MSh.o8 Mg, MSh.l8 Mg, MSh.p26 Mg, MSh.o9 Mg, MSh.l9 Mg, MSh.p32 Mg, MSh.o10 Mg, MSh.l10 Mg, MSh.p33 Mg, MSh.o11 Mg, MSh.l11 Mg, MSh.p35 Mg, MSh.o12 Mg, MSh.l12 Mg, MSh.p36 Mg, MSh.o13 Mg, MSh.l13 Mg, MSh.p37 Mg, MSh.o14 Mg, MSh.l14 Mg, MSh.p38 Mg, MSh.o15 Mg, MSh.l15 Mg, MSh.p39 Mg, MSh.o16 Mg, MSh.l16 Mg, MSh.p42 Mg, MSh.o17 Mg, MSh.l17 Mg, MSh.p43 Mg, MSh.o18 Mg, MSh.l18 Mg, MSh.p44 Mg, MSh.o19 Mg, MSh.l19 Mg, MSh.p45 Mg, MSh.o20 Mg, MSh.l20 Mg, MSh.p46 Mg, MSh.o21 Mg, MSh.l21 Mg, MSh.p47 Mg, MSh.o22 Mg, MSh.l22 Mg, MSh.p50 Mg, MSh.o23 Mg, MSh.l23 Mg, MSh.p51 Mg, MSh.o24 Mg, MSh.l24 Mg, MSh.p52 Mg, MSh.o25 Mg, MSh.l25 Mg, fd0, fd1, fd2, fd3, fd4, fd5, fd6, fd7, fd8, fd9, fd10, fd11, fd12, fd13, fd14, fd15, fd16, fd17, fd18, fd19, fd20, fd21, fd22, fd23, fd24, fd25, fd26, fd27, fd28, fd29, fd30, fd31, fd32, fd33, fd34, fd35, fd36, fd37, fd38, fd39, fd40, fd41, fd42, fd43, fd44, fd45, fd46, fd47, fd48, fd49, fd50, fd51, fd52, -Int.reduceToNat, -Int32.reduceToNatClampNeg, il0, il1, il2, il3, il4, il5, il6, il7, il8, il9, il10, il11, il12, il13, il14, il15, il16, il17, il18, il19, il20, il21, il22, il23, il24, il25, il26, il27, il28, il29, il30, il31, il32, il35, il36, il38, il40, il42, il43, il44, il45, il46, il47, il48, il49, il50, il51, il52, il57, il59, il60, il63, il64, il75, il80, il95, il96, il97, il98, il99, il100, il120, il122, il123, il127, il128, il135, il167, il175, il225, il249, il250, il255, il256, il360, il370, il384, il600, il700, il740, il900, il940, il1024, il1600, il4800, il64000, il125000, il262143, il1000000000, iI_toInt, iI_add, iI_sub, iI_mul, iI_neg, iI_lt, iI_le, iI_eq, iI_n, iI_in, iI_div, iI_mod, iI_shm, iI_and1, iI_and7, iI_and63, iI_shr3, iI_shr6, rd_I, ob, Option.some.injEq, exists_eq_left', exists_eq_left, true_and, and_true, fqI, fqJ, eq_self, true_or, or_true, bP_0, bP_0i, npP, bP_1i, bP_b, not_true_eq_false, not_false_eq_true, false_implies, true_implies, implies_true, Classical.not_not, and_self, g92, cP, cP', ite_n, ite_T, ite_F, ite_t, ite_f]
    rw [m_isTown Mg (by rw [g94]; exact hS) (by rw [g94]; exact n2) (by rw [g94]; exact n0) (by rw [g94]; exact n1) hA]
    simp (disch := omega) only [-Int.reduceToNat, -Int32.reduceToNatClampNeg, il0, il1, il2, il3, il4, il5, il6, il7, il8, il9, il10, il11, il12, il13, il14, il15, il16, il17, il18, il19, il20, il21, il22, il23, il24, il25, il26, il27, il28, il29, il30, il31, il32, il35, il36, il38, il40, il42, il43, il44, il45, il46, il47, il48, il49, il50, il51, il52, il57, il59, il60, il63, il64, il75, il80, il95, il96, il97, il98, il99, il100, il120, il122, il123, il127, il128, il135, il167, il175, il225, il249, il250, il255, il256, il360, il370, il384, il600, il700, il740, il900, il940, il1024, il1600, il4800, il64000, il125000, il262143, il1000000000, iI_toInt, iI_add, iI_sub, iI_mul, iI_neg, iI_lt, iI_le, iI_eq, iI_n, iI_in, iI_div, iI_mod, iI_shm, iI_and1, iI_and7, iI_and63, iI_shr3, iI_shr6, rd_I, ob, Option.some.injEq, exists_eq_left', exists_eq_left, true_and, and_true, fqI, fqJ, eq_self, true_or, or_true, bP_0, bP_0i, npP, bP_1i, bP_b, not_true_eq_false, not_false_eq_true, false_implies, true_implies, implies_true, Classical.not_not, and_self]
    have et : townT (rd g 94) (rd g 99) (rd g 100) ↔ (rd h 92 2 = 3 * s 2 ∧ ByOk s (fun i => rd h 93 i % 256) ∧ townT s (byT s (fun i => rd h 93 i % 256)) (zS s)) := by
      rw [g94, townT_c n2 tall g100 (fun r r1 r2 => by rw [tall _ (by omega) (by omega)]; exact hu r r1 r2)]
      exact ⟨fun q => ⟨cl, hby, q⟩, fun q => q.2.2⟩
    rw [bP_c et]
    have f66 := fg.mono (wi' := [92, 99, 100]) (wj' := []) (wq' := []) (by simp) (by simp) (by simp)
    have e926 : rd g 92 = rd h1 92 := by rw [fg.row (by decide), e92]
    exact k g (F0.trans f66) (fun i hi => by rw [e926, m1 i hi]) (by rw [e926, e2]) g100 (fun i i1 i2 _ => tall i i1 i2)
end MTOWN
