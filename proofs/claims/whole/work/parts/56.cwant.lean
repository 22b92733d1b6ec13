/-! WANTS in the class -/
def arZ (z0 : Int64) : Int64 := ((((z0.toUInt64 >>> ((iI 8).toInt64.toUInt64 &&& Int64.toUInt64 63)).toInt64) ||| (z0 <<< ((iI 8).toInt64 &&& 63))) ||| ((z0 &&& (9187201950435737471 : Int64)) <<< ((iI 1).toInt64 &&& 63))) ||| (((z0 &&& (-72340172838076674 : Int64)).toUInt64 >>> ((iI 1).toInt64.toUInt64 &&& Int64.toUInt64 63)).toInt64)
def shZ (z0 : Int64) (d : Int) : Int64 := if d = 0 then (z0.toUInt64 >>> ((iI 8).toInt64.toUInt64 &&& Int64.toUInt64 63)).toInt64 else if d = 1 then (z0 &&& (9187201950435737471 : Int64)) <<< ((iI 1).toInt64 &&& 63) else if d = 2 then z0 <<< ((iI 8).toInt64 &&& 63) else ((z0 &&& (-72340172838076674 : Int64)).toUInt64 >>> ((iI 1).toInt64.toUInt64 &&& Int64.toUInt64 63)).toInt64
theorem zb_64 (z : Int64) {k : Int} (h : 64 ≤ k) : ¬ zb z k := by
  unfold zb
  rw [BitVec.getLsbD_of_ge _ _ (by omega)]
  decide
theorem zb_N (z : Int64) {x y : Int} (x1 : 0 ≤ x) (x2 : x < 8) (y1 : 0 ≤ y) (y2 : y < 8) : zb ((z.toUInt64 >>> ((iI 8).toInt64.toUInt64 &&& Int64.toUInt64 63)).toInt64) (8 * y + x) ↔ y + 1 < 8 ∧ zb z (8 * (y + 1) + x) := by
  rw [zb_shr z (by omega) (by omega) (by omega), show 8 * y + x + 8 = 8 * (y + 1) + x by omega]
  constructor
  · intro q
    refine ⟨?_, q⟩
    apply Classical.byContradiction
    intro c
    exact zb_64 z (by omega) q
  · exact fun q => q.2
theorem zb_S (z : Int64) {x y : Int} (x1 : 0 ≤ x) (x2 : x < 8) (y1 : 0 ≤ y) (y2 : y < 8) : zb (z <<< ((iI 8).toInt64 &&& 63)) (8 * y + x) ↔ 0 ≤ y - 1 ∧ zb z (8 * (y - 1) + x) := by
  rw [zb_shl z (by omega) (by omega) (by omega) (by omega), show 8 * y + x - 8 = 8 * (y - 1) + x by omega]
  constructor
  · rintro ⟨a, b⟩; exact ⟨by omega, b⟩
  · rintro ⟨a, b⟩; exact ⟨by omega, b⟩
theorem zb_E (z : Int64) {x y : Int} (x1 : 0 ≤ x) (x2 : x < 8) (y1 : 0 ≤ y) (y2 : y < 8) : zb ((z &&& (9187201950435737471 : Int64)) <<< ((iI 1).toInt64 &&& 63)) (8 * y + x) ↔ 0 ≤ x - 1 ∧ zb z (8 * y + (x - 1)) := by
  rw [zb_shl _ (by omega) (by omega) (by omega) (by omega), zb_and, show 8 * y + x - 1 = 8 * y + (x - 1) by omega]
  constructor
  · rintro ⟨a, b, c⟩
    rw [zb_noE (by omega) (by omega)] at c
    exact ⟨by omega, b⟩
  · rintro ⟨a, b⟩
    exact ⟨by omega, b, (zb_noE (by omega) (by omega)).mpr (by omega)⟩
theorem zb_W (z : Int64) {x y : Int} (x1 : 0 ≤ x) (x2 : x < 8) (y1 : 0 ≤ y) (y2 : y < 8) : zb (((z &&& (-72340172838076674 : Int64)).toUInt64 >>> ((iI 1).toInt64.toUInt64 &&& Int64.toUInt64 63)).toInt64) (8 * y + x) ↔ x + 1 < 8 ∧ zb z (8 * y + (x + 1)) := by
  rw [zb_shr _ (by omega) (by omega) (by omega), zb_and, show 8 * y + x + 1 = 8 * y + (x + 1) by omega]
  constructor
  · rintro ⟨b, c⟩
    by_cases q : 8 * y + (x + 1) < 64
    · rw [zb_noW (by omega) (by omega)] at c
      exact ⟨by omega, b⟩
    · exact absurd b (zb_64 z (by omega))
  · rintro ⟨a, b⟩
    exact ⟨b, (zb_noW (by omega) (by omega)).mpr (by omega)⟩
theorem zb_ar (z : Int64) {x y : Int} (x1 : 0 ≤ x) (x2 : x < 8) (y1 : 0 ≤ y) (y2 : y < 8) : zb (arZ z) (8 * y + x) ↔ (((y + 1 < 8 ∧ zb z (8 * (y + 1) + x)) ∨ (0 ≤ y - 1 ∧ zb z (8 * (y - 1) + x))) ∨ (0 ≤ x - 1 ∧ zb z (8 * y + (x - 1)))) ∨ (x + 1 < 8 ∧ zb z (8 * y + (x + 1))) := by
  unfold arZ
  rw [zb_or, zb_or, zb_or, zb_N z x1 x2 y1 y2, zb_S z x1 x2 y1 y2, zb_E z x1 x2 y1 y2, zb_W z x1 x2 y1 y2]
theorem zb_sh (z : Int64) {x y d : Int} (x1 : 0 ≤ x) (x2 : x < 8) (y1 : 0 ≤ y) (y2 : y < 8) (d1 : 0 ≤ d) (d2 : d ≤ 3) : zb (shZ z d) (8 * y + x) ↔ (0 ≤ x - dxS d ∧ x - dxS d < 8 ∧ 0 ≤ y - dyS d ∧ y - dyS d < 8) ∧ zb z (8 * (y - dyS d) + (x - dxS d)) := by
  unfold shZ dxS dyS
  by_cases c0 : d = 0
  · subst c0
    rw [if_pos rfl, zb_N z x1 x2 y1 y2]
    simp
    intro _
    omega
  · by_cases c1 : d = 1
    · subst c1
      rw [if_neg (by omega), if_pos rfl, zb_E z x1 x2 y1 y2]
      simp
      intro _
      omega
    · by_cases c2 : d = 2
      · subst c2
        rw [if_neg (by omega), if_neg (by omega), if_pos rfl, zb_S z x1 x2 y1 y2]
        simp
        intro _
        omega
      · have c3 : d = 3 := by omega
        subst c3
        rw [if_neg (by omega), if_neg (by omega), if_neg (by omega), zb_W z x1 x2 y1 y2]
        simp
        intro _
        omega
/-- a WANT by the cells that are covered -/
def soC (s : Int → Int) (C : Nat → Int64) (cov : Int64) (w : Int) : Prop := if s (175 + 5 * w) = 0 then ¬ arZ (C (s (175 + 5 * w + 1)).toNat) &&& C (s (175 + 5 * w + 2)).toNat = 0 else if s (175 + 5 * w) = 1 then arZ (C (s (175 + 5 * w + 1)).toNat) &&& C (s (175 + 5 * w + 2)).toNat = 0 else if s (175 + 5 * w) = 2 then shZ (C (s (175 + 5 * w + 1)).toNat) (s (175 + 5 * w + 2)) &&& (C (s (175 + 5 * w + 1)).toNat ^^^ (-1 : Int64)) &&& cov = 0 else zb (C (s (175 + 5 * w + 1)).toNat) (8 * s (175 + 5 * w + 3) + s (175 + 5 * w + 2))
def WLi (s : Int → Int) : Prop := ∀ w, 0 ≤ w → w < s 5 → (s (175 + 5 * w) = 2 → s (175 + 5 * w + 2) ≤ 3) ∧ (s (175 + 5 * w) = 3 → s (175 + 5 * w + 2) < 8 ∧ s (175 + 5 * w + 3) < 8) ∧ (s (175 + 5 * w) ≤ 1 → s (175 + 5 * w + 2) ≠ s (175 + 5 * w + 1))
section CWANT
variable {h : AH} {la tw cv : Nat} {s t z T : Int → Int} {post : AH → Int32 → Prop} {postJ : AH → Int64 → Prop} {a b c d r x y n sp sq w hh u hr how one : Int} {zz cov : Int64}
theorem c_around : wp_X10_around h zz postJ ↔ postJ h (arZ zz) := by
  unfold wp_X10_around arZ
  rw [il8, il1]
theorem c_shifted (h1 : 0 ≤ d) (h2 : d ≤ 3) : wp_X10_shifted h zz (iI d) postJ ↔ postJ h (shZ zz d) := by
  unfold wp_X10_shifted shZ
  simp (disch := omega) only [-Int.reduceToNat, -Int32.reduceToNatClampNeg, il0, il1, il2, il3, il4, il5, il6, il7, il8, il9, il10, il11, il12, il13, il14, il15, il16, il17, il18, il19, il20, il21, il22, il23, il24, il25, il26, il27, il28, il29, il30, il31, il32, il35, il36, il38, il40, il42, il43, il44, il45, il46, il47, il48, il49, il50, il51, il52, il57, il59, il60, il63, il64, il75, il80, il95, il96, il97, il98, il99, il100, il120, il122, il123, il127, il128, il135, il167, il175, il225, il249, il250, il255, il256, il360, il370, il384, il600, il700, il740, il900, il940, il1024, il1600, il4800, il64000, il125000, il262143, il1000000000, iI_toInt, iI_add, iI_sub, iI_mul, iI_neg, iI_lt, iI_le, iI_eq, iI_n, iI_in, iI_div, iI_mod, iI_shm, iI_and1, iI_and7, iI_and63, iI_shr3, iI_shr6, rd_I, ob, Option.some.injEq, exists_eq_left', exists_eq_left, true_and, and_true, fqI, fqJ, eq_self, true_or, or_true, bP_0, bP_0i, npP, bP_1i, bP_b, not_true_eq_false, not_false_eq_true, false_implies, true_implies, implies_true, Classical.not_not, and_self]
  by_cases c0 : d = 0
  · subst c0; simp
  · by_cases c1 : d = 1
    · subst c1; simp
    · by_cases c2 : d = 2
      · subst c2; simp
      · have c3 : d = 3 := by omega
        subst c3; simp
theorem c_isSo (H : LB h la) (L : LR h la s) (hG : GS s) (hL : WLi s) (o1 : ob h cv 14) (o2 : aL h cv = 8) (h1 : 0 ≤ w) (h2 : w < s 5) : wp_X10_isSo h (la + 16) (iI w) cv cov post ↔ post h (bP (soC s (aJ h cv) cov w)) := by
  obtain ⟨⟨hS, n0, n1, n2, n3, n4, n5, hK, hW⟩, hD, hPo, hNe⟩ := hG
  obtain ⟨⟨k0, k1⟩, ⟨k2, k3⟩, k4⟩ := hW w h1 h2
  obtain ⟨l2, l3, -⟩ := hL w h1 h2
  have s2 := hS (175 + 5 * w + 2) (by omega) (by omega)
  have s3 := hS (175 + 5 * w + 3) (by omega) (by omega)
  unfold wp_X10_isSo soC
  by_cases q0 : s (175 + 5 * w) = 0
  · obtain ⟨k5, k6⟩ := k4 (by omega)
    have et : rd h (la + 19) w = s (175 + 5 * w + 2) := by rw [L.wt w h1 h2, if_neg (by omega)]
    simp (disch := omega) only [LB.o0 H, LB.p2 H, LB.o1 H, LB.l1 H, LB.p3 H, LB.o2 H, LB.l2 H, LB.p4 H, LB.o3 H, LB.l3 H, LB.p6 H, LB.o4 H, LB.l4 H, LB.p7 H, LB.o5 H, LB.l5 H, LB.p8 H, LB.o6 H, LB.l6 H, LB.p9 H, LB.o7 H, LB.l7 H, LB.p10 H, LB.o8 H, LB.l8 H, LB.p12 H, LB.o9 H, LB.l9 H, LB.p14 H, LB.o10 H, LB.p15 H, LB.o16 H, LB.q10_1 H, LB.o11 H, LB.l11 H, LB.q10_2 H, LB.o12 H, LB.l12 H, LB.q10_3 H, LB.o13 H, LB.l13 H, LB.q10_4 H, LB.o14 H, LB.l14 H, LB.q10_5 H, LB.o15 H, LB.l15 H, LB.q16_1 H, LB.o17 H, LB.l17 H, LB.q16_2 H, LB.o18 H, LB.l18 H, LB.q16_3 H, LB.o19 H, LB.l19 H, LB.q16_4 H, LB.o20 H, LB.l20 H, o1, o2, fd0, fd1, fd2, fd3, fd4, fd5, fd6, fd7, fd8, fd9, fd10, fd11, fd12, fd13, fd14, fd15, fd16, fd17, fd18, fd19, fd20, fd21, fd22, fd23, fd24, fd25, fd26, fd27, fd28, fd29, fd30, fd31, fd32, fd33, fd34, fd35, fd36, fd37, fd38, fd39, fd40, fd41, fd42, fd43, fd44, fd45, fd46, fd47, fd48, fd49, fd50, fd51, fd52, LR.wk L, LR.wh L, et, q0, if_pos, -Int.reduceToNat, -Int32.reduceToNatClampNeg, il0, il1, il2, il3, il4, il5, il6, il7, il8, il9, il10, il11, il12, il13, il14, il15, il16, il17, il18, il19, il20, il21, il22, il23, il24, il25, il26, il27, il28, il29, il30, il31, il32, il35, il36, il38, il40, il42, il43, il44, il45, il46, il47, il48, il49, il50, il51, il52, il57, il59, il60, il63, il64, il75, il80, il95, il96, il97, il98, il99, il100, il120, il122, il123, il127, il128, il135, il167, il175, il225, il249, il250, il255, il256, il360, il370, il384, il600, il700, il740, il900, il940, il1024, il1600, il4800, il64000, il125000, il262143, il1000000000, iI_toInt, iI_add, iI_sub, iI_mul, iI_neg, iI_lt, iI_le, iI_eq, iI_n, iI_in, iI_div, iI_mod, iI_shm, iI_and1, iI_and7, iI_and63, iI_shr3, iI_shr6, rd_I, lgc, z_bit, ob, Option.some.injEq, exists_eq_left', exists_eq_left, true_and, and_true, fqI, fqJ, eq_self, true_or, or_true, bP_0, bP_0i, npP, bP_1i, bP_b, not_true_eq_false, not_false_eq_true, false_implies, true_implies, implies_true, Classical.not_not, and_self, c_around, cI post h, cI' post h]
    simp
    refine iff_of_eq (congrArg (post h) ?_)
    by_cases cc : arZ (aJ h cv (s (175 + 5 * w + 1)).toNat) &&& aJ h cv (s (175 + 5 * w + 2)).toNat = 0
    · rw [ite_t cc, bP_f (fun q => q cc)]
    · rw [ite_f cc, bP_t cc]
  · by_cases q1 : s (175 + 5 * w) = 1
    · obtain ⟨k5, k6⟩ := k4 (by omega)
      have et : rd h (la + 19) w = s (175 + 5 * w + 2) := by rw [L.wt w h1 h2, if_neg (by omega)]
      simp (disch := omega) only [LB.o0 H, LB.p2 H, LB.o1 H, LB.l1 H, LB.p3 H, LB.o2 H, LB.l2 H, LB.p4 H, LB.o3 H, LB.l3 H, LB.p6 H, LB.o4 H, LB.l4 H, LB.p7 H, LB.o5 H, LB.l5 H, LB.p8 H, LB.o6 H, LB.l6 H, LB.p9 H, LB.o7 H, LB.l7 H, LB.p10 H, LB.o8 H, LB.l8 H, LB.p12 H, LB.o9 H, LB.l9 H, LB.p14 H, LB.o10 H, LB.p15 H, LB.o16 H, LB.q10_1 H, LB.o11 H, LB.l11 H, LB.q10_2 H, LB.o12 H, LB.l12 H, LB.q10_3 H, LB.o13 H, LB.l13 H, LB.q10_4 H, LB.o14 H, LB.l14 H, LB.q10_5 H, LB.o15 H, LB.l15 H, LB.q16_1 H, LB.o17 H, LB.l17 H, LB.q16_2 H, LB.o18 H, LB.l18 H, LB.q16_3 H, LB.o19 H, LB.l19 H, LB.q16_4 H, LB.o20 H, LB.l20 H, o1, o2, fd0, fd1, fd2, fd3, fd4, fd5, fd6, fd7, fd8, fd9, fd10, fd11, fd12, fd13, fd14, fd15, fd16, fd17, fd18, fd19, fd20, fd21, fd22, fd23, fd24, fd25, fd26, fd27, fd28, fd29, fd30, fd31, fd32, fd33, fd34, fd35, fd36, fd37, fd38, fd39, fd40, fd41, fd42, fd43, fd44, fd45, fd46, fd47, fd48, fd49, fd50, fd51, fd52, LR.wk L, LR.wh L, et, q1, if_pos, -Int.reduceToNat, -Int32.reduceToNatClampNeg, il0, il1, il2, il3, il4, il5, il6, il7, il8, il9, il10, il11, il12, il13, il14, il15, il16, il17, il18, il19, il20, il21, il22, il23, il24, il25, il26, il27, il28, il29, il30, il31, il32, il35, il36, il38, il40, il42, il43, il44, il45, il46, il47, il48, il49, il50, il51, il52, il57, il59, il60, il63, il64, il75, il80, il95, il96, il97, il98, il99, il100, il120, il122, il123, il127, il128, il135, il167, il175, il225, il249, il250, il255, il256, il360, il370, il384, il600, il700, il740, il900, il940, il1024, il1600, il4800, il64000, il125000, il262143, il1000000000, iI_toInt, iI_add, iI_sub, iI_mul, iI_neg, iI_lt, iI_le, iI_eq, iI_n, iI_in, iI_div, iI_mod, iI_shm, iI_and1, iI_and7, iI_and63, iI_shr3, iI_shr6, rd_I, lgc, z_bit, ob, Option.some.injEq, exists_eq_left', exists_eq_left, true_and, and_true, fqI, fqJ, eq_self, true_or, or_true, bP_0, bP_0i, npP, bP_1i, bP_b, not_true_eq_false, not_false_eq_true, false_implies, true_implies, implies_true, Classical.not_not, and_self, c_around, cI post h, cI' post h]
      simp
      refine iff_of_eq (congrArg (post h) ?_)
      by_cases cc : arZ (aJ h cv (s (175 + 5 * w + 1)).toNat) &&& aJ h cv (s (175 + 5 * w + 2)).toNat = 0
      · rw [ite_t cc, bP_t cc]
      · rw [ite_f cc, bP_f cc]
    · by_cases q2 : s (175 + 5 * w) = 2
      · have et : rd h (la + 19) w = s (175 + 5 * w + 2) := by rw [L.wt w h1 h2, if_neg (by omega)]
        simp (disch := omega) only [LB.o0 H, LB.p2 H, LB.o1 H, LB.l1 H, LB.p3 H, LB.o2 H, LB.l2 H, LB.p4 H, LB.o3 H, LB.l3 H, LB.p6 H, LB.o4 H, LB.l4 H, LB.p7 H, LB.o5 H, LB.l5 H, LB.p8 H, LB.o6 H, LB.l6 H, LB.p9 H, LB.o7 H, LB.l7 H, LB.p10 H, LB.o8 H, LB.l8 H, LB.p12 H, LB.o9 H, LB.l9 H, LB.p14 H, LB.o10 H, LB.p15 H, LB.o16 H, LB.q10_1 H, LB.o11 H, LB.l11 H, LB.q10_2 H, LB.o12 H, LB.l12 H, LB.q10_3 H, LB.o13 H, LB.l13 H, LB.q10_4 H, LB.o14 H, LB.l14 H, LB.q10_5 H, LB.o15 H, LB.l15 H, LB.q16_1 H, LB.o17 H, LB.l17 H, LB.q16_2 H, LB.o18 H, LB.l18 H, LB.q16_3 H, LB.o19 H, LB.l19 H, LB.q16_4 H, LB.o20 H, LB.l20 H, o1, o2, fd0, fd1, fd2, fd3, fd4, fd5, fd6, fd7, fd8, fd9, fd10, fd11, fd12, fd13, fd14, fd15, fd16, fd17, fd18, fd19, fd20, fd21, fd22, fd23, fd24, fd25, fd26, fd27, fd28, fd29, fd30, fd31, fd32, fd33, fd34, fd35, fd36, fd37, fd38, fd39, fd40, fd41, fd42, fd43, fd44, fd45, fd46, fd47, fd48, fd49, fd50, fd51, fd52, LR.wk L, LR.wh L, et, q2, if_pos, -Int.reduceToNat, -Int32.reduceToNatClampNeg, il0, il1, il2, il3, il4, il5, il6, il7, il8, il9, il10, il11, il12, il13, il14, il15, il16, il17, il18, il19, il20, il21, il22, il23, il24, il25, il26, il27, il28, il29, il30, il31, il32, il35, il36, il38, il40, il42, il43, il44, il45, il46, il47, il48, il49, il50, il51, il52, il57, il59, il60, il63, il64, il75, il80, il95, il96, il97, il98, il99, il100, il120, il122, il123, il127, il128, il135, il167, il175, il225, il249, il250, il255, il256, il360, il370, il384, il600, il700, il740, il900, il940, il1024, il1600, il4800, il64000, il125000, il262143, il1000000000, iI_toInt, iI_add, iI_sub, iI_mul, iI_neg, iI_lt, iI_le, iI_eq, iI_n, iI_in, iI_div, iI_mod, iI_shm, iI_and1, iI_and7, iI_and63, iI_shr3, iI_shr6, rd_I, lgc, z_bit, ob, Option.some.injEq, exists_eq_left', exists_eq_left, true_and, and_true, fqI, fqJ, eq_self, true_or, or_true, bP_0, bP_0i, npP, bP_1i, bP_b, not_true_eq_false, not_false_eq_true, false_implies, true_implies, implies_true, Classical.not_not, and_self, c_shifted s2.1 (l2 q2), cI post h, cI' post h]
        simp
        refine iff_of_eq (congrArg (post h) ?_)
        rfl
      · have q3 : s (175 + 5 * w) = 3 := by omega
        have et : rd h (la + 19) w = 8 * s (175 + 5 * w + 3) + s (175 + 5 * w + 2) := by rw [L.wt w h1 h2, if_pos q3]
        have l3' := l3 q3
        simp (disch := omega) only [LB.o0 H, LB.p2 H, LB.o1 H, LB.l1 H, LB.p3 H, LB.o2 H, LB.l2 H, LB.p4 H, LB.o3 H, LB.l3 H, LB.p6 H, LB.o4 H, LB.l4 H, LB.p7 H, LB.o5 H, LB.l5 H, LB.p8 H, LB.o6 H, LB.l6 H, LB.p9 H, LB.o7 H, LB.l7 H, LB.p10 H, LB.o8 H, LB.l8 H, LB.p12 H, LB.o9 H, LB.l9 H, LB.p14 H, LB.o10 H, LB.p15 H, LB.o16 H, LB.q10_1 H, LB.o11 H, LB.l11 H, LB.q10_2 H, LB.o12 H, LB.l12 H, LB.q10_3 H, LB.o13 H, LB.l13 H, LB.q10_4 H, LB.o14 H, LB.l14 H, LB.q10_5 H, LB.o15 H, LB.l15 H, LB.q16_1 H, LB.o17 H, LB.l17 H, LB.q16_2 H, LB.o18 H, LB.l18 H, LB.q16_3 H, LB.o19 H, LB.l19 H, LB.q16_4 H, LB.o20 H, LB.l20 H, o1, o2, fd0, fd1, fd2, fd3, fd4, fd5, fd6, fd7, fd8, fd9, fd10, fd11, fd12, fd13, fd14, fd15, fd16, fd17, fd18, fd19, fd20, fd21, fd22, fd23, fd24, fd25, fd26, fd27, fd28, fd29, fd30, fd31, fd32, fd33, fd34, fd35, fd36, fd37, fd38, fd39, fd40, fd41, fd42, fd43, fd44, fd45, fd46, fd47, fd48, fd49, fd50, fd51, fd52, LR.wk L, LR.wh L, et, q3, if_pos, -Int.reduceToNat, -Int32.reduceToNatClampNeg, il0, il1, il2, il3, il4, il5, il6, il7, il8, il9, il10, il11, il12, il13, il14, il15, il16, il17, il18, il19, il20, il21, il22, il23, il24, il25, il26, il27, il28, il29, il30, il31, il32, il35, il36, il38, il40, il42, il43, il44, il45, il46, il47, il48, il49, il50, il51, il52, il57, il59, il60, il63, il64, il75, il80, il95, il96, il97, il98, il99, il100, il120, il122, il123, il127, il128, il135, il167, il175, il225, il249, il250, il255, il256, il360, il370, il384, il600, il700, il740, il900, il940, il1024, il1600, il4800, il64000, il125000, il262143, il1000000000, iI_toInt, iI_add, iI_sub, iI_mul, iI_neg, iI_lt, iI_le, iI_eq, iI_n, iI_in, iI_div, iI_mod, iI_shm, iI_and1, iI_and7, iI_and63, iI_shr3, iI_shr6, rd_I, lgc, z_bit, ob, Option.some.injEq, exists_eq_left', exists_eq_left, true_and, and_true, fqI, fqJ, eq_self, true_or, or_true, bP_0, bP_0i, npP, bP_1i, bP_b, not_true_eq_false, not_false_eq_true, false_implies, true_implies, implies_true, Classical.not_not, and_self, cI post h, cI' post h]
        simp
        refine iff_of_eq (congrArg (post h) ?_)
        rw [ite_n]
        rfl
theorem c_soBits (H : LB h la) (L : LR h la s) (hG : GS s) (hL : WLi s) (o1 : ob h cv 14) (o2 : aL h cv = 8) : wp_X10_soBits h (la + 16) cv cov post ↔ post h (foldI (bitsF (soC s (aJ h cv) cov)) (s 5).toNat 0 (iI 0)) := by
  have n5 := hG.1.2.2.2.2.2.2.1
  have s5 := hG.1.1 5 (by omega) (by omega)
  unfold wp_X10_soBits
  have key := lp_fold (W := fun n (b : Int32) k => wl_X10_soBits_6 post n h (la + 16) cv cov b (iI k)) (E := fun b => post h b) (f := bitsF (soC s (aJ h cv) cov)) (lo := 0) (hi := s 5) (fun _ _ => True) (by omega) (fun b i q => q) (fun n b k k1 k2 _ => ?_) (fun _ _ _ _ _ => trivial) (fun n b _ => ?_) (iI 0) trivial
  · rw [Int.sub_zero] at key
    exact key
  · show wb_X10_soBits_6 (wl_X10_soBits_6 post n) h (la + 16) cv cov b (iI k) post ↔ _
    unfold wb_X10_soBits_6 wb_X10_soBits_35
    simp (disch := omega) only [LB.o0 H, LB.p2 H, LB.o1 H, LB.l1 H, LB.p3 H, LB.o2 H, LB.l2 H, LB.p4 H, LB.o3 H, LB.l3 H, LB.p6 H, LB.o4 H, LB.l4 H, LB.p7 H, LB.o5 H, LB.l5 H, LB.p8 H, LB.o6 H, LB.l6 H, LB.p9 H, LB.o7 H, LB.l7 H, LB.p10 H, LB.o8 H, LB.l8 H, LB.p12 H, LB.o9 H, LB.l9 H, LB.p14 H, LB.o10 H, LB.p15 H, LB.o16 H, LB.q10_1 H, LB.o11 H, LB.l11 H, LB.q10_2 H, LB.o12 H, LB.l12 H, LB.q10_3 H, LB.o13 H, LB.l13 H, LB.q10_4 H, LB.o14 H, LB.l14 H, LB.q10_5 H, LB.o15 H, LB.l15 H, LB.q16_1 H, LB.o17 H, LB.l17 H, LB.q16_2 H, LB.o18 H, LB.l18 H, LB.q16_3 H, LB.o19 H, LB.l19 H, LB.q16_4 H, LB.o20 H, LB.l20 H, fd0, fd1, fd2, fd3, fd4, fd5, fd6, fd7, fd8, fd9, fd10, fd11, fd12, fd13, fd14, fd15, fd16, fd17, fd18, fd19, fd20, fd21, fd22, fd23, fd24, fd25, fd26, fd27, fd28, fd29, fd30, fd31, fd32, fd33, fd34, fd35, fd36, fd37, fd38, fd39, fd40, fd41, fd42, fd43, fd44, fd45, fd46, fd47, fd48, fd49, fd50, fd51, fd52, LR.c0 L, LR.c1 L, LR.c5 L, LR.c11 L, LR.q0 L, LR.w0 L, LR.td L, LR.wi L, LR.hi L, LR.dr L, LR.po L, LR.ro L, LR.rp L, LR.rq L, LR.rh L, LR.mo L, LR.wk L, LR.wh L, LR.wt L, LR.ww L, -Int.reduceToNat, -Int32.reduceToNatClampNeg, il0, il1, il2, il3, il4, il5, il6, il7, il8, il9, il10, il11, il12, il13, il14, il15, il16, il17, il18, il19, il20, il21, il22, il23, il24, il25, il26, il27, il28, il29, il30, il31, il32, il35, il36, il38, il40, il42, il43, il44, il45, il46, il47, il48, il49, il50, il51, il52, il57, il59, il60, il63, il64, il75, il80, il95, il96, il97, il98, il99, il100, il120, il122, il123, il127, il128, il135, il167, il175, il225, il249, il250, il255, il256, il360, il370, il384, il600, il700, il740, il900, il940, il1024, il1600, il4800, il64000, il125000, il262143, il1000000000, iI_toInt, iI_add, iI_sub, iI_mul, iI_neg, iI_lt, iI_le, iI_eq, iI_n, iI_in, iI_div, iI_mod, iI_shm, iI_and1, iI_and7, iI_and63, iI_shr3, iI_shr6, rd_I, lgc, z_bit, ob, Option.some.injEq, exists_eq_left', exists_eq_left, true_and, and_true, fqI, fqJ, eq_self, true_or, or_true, bP_0, bP_0i, npP, bP_1i, bP_b, not_true_eq_false, not_false_eq_true, false_implies, true_implies, implies_true, Classical.not_not, and_self, cP, cP', ite_n, ite_T, ite_F, ite_t, ite_f, c_isSo H L hG hL o1 o2 k1 k2]
    unfold bitsF
    by_cases c1 : soC s (aJ h cv) cov k
    · rw [ite_t c1, ite_t c1]
    · rw [ite_f c1, ite_f c1]
  · show wb_X10_soBits_6 (wl_X10_soBits_6 post n) h (la + 16) cv cov b (iI _) post ↔ _
    unfold wb_X10_soBits_6
    simp (disch := omega) only [LB.o0 H, LB.p2 H, LB.o1 H, LB.l1 H, LB.p3 H, LB.o2 H, LB.l2 H, LB.p4 H, LB.o3 H, LB.l3 H, LB.p6 H, LB.o4 H, LB.l4 H, LB.p7 H, LB.o5 H, LB.l5 H, LB.p8 H, LB.o6 H, LB.l6 H, LB.p9 H, LB.o7 H, LB.l7 H, LB.p10 H, LB.o8 H, LB.l8 H, LB.p12 H, LB.o9 H, LB.l9 H, LB.p14 H, LB.o10 H, LB.p15 H, LB.o16 H, LB.q10_1 H, LB.o11 H, LB.l11 H, LB.q10_2 H, LB.o12 H, LB.l12 H, LB.q10_3 H, LB.o13 H, LB.l13 H, LB.q10_4 H, LB.o14 H, LB.l14 H, LB.q10_5 H, LB.o15 H, LB.l15 H, LB.q16_1 H, LB.o17 H, LB.l17 H, LB.q16_2 H, LB.o18 H, LB.l18 H, LB.q16_3 H, LB.o19 H, LB.l19 H, LB.q16_4 H, LB.o20 H, LB.l20 H, fd0, fd1, fd2, fd3, fd4, fd5, fd6, fd7, fd8, fd9, fd10, fd11, fd12, fd13, fd14, fd15, fd16, fd17, fd18, fd19, fd20, fd21, fd22, fd23, fd24, fd25, fd26, fd27, fd28, fd29, fd30, fd31, fd32, fd33, fd34, fd35, fd36, fd37, fd38, fd39, fd40, fd41, fd42, fd43, fd44, fd45, fd46, fd47, fd48, fd49, fd50, fd51, fd52, LR.c0 L, LR.c1 L, LR.c5 L, LR.c11 L, LR.q0 L, LR.w0 L, LR.td L, LR.wi L, LR.hi L, LR.dr L, LR.po L, LR.ro L, LR.rp L, LR.rq L, LR.rh L, LR.mo L, LR.wk L, LR.wh L, LR.wt L, LR.ww L, -Int.reduceToNat, -Int32.reduceToNatClampNeg, il0, il1, il2, il3, il4, il5, il6, il7, il8, il9, il10, il11, il12, il13, il14, il15, il16, il17, il18, il19, il20, il21, il22, il23, il24, il25, il26, il27, il28, il29, il30, il31, il32, il35, il36, il38, il40, il42, il43, il44, il45, il46, il47, il48, il49, il50, il51, il52, il57, il59, il60, il63, il64, il75, il80, il95, il96, il97, il98, il99, il100, il120, il122, il123, il127, il128, il135, il167, il175, il225, il249, il250, il255, il256, il360, il370, il384, il600, il700, il740, il900, il940, il1024, il1600, il4800, il64000, il125000, il262143, il1000000000, iI_toInt, iI_add, iI_sub, iI_mul, iI_neg, iI_lt, iI_le, iI_eq, iI_n, iI_in, iI_div, iI_mod, iI_shm, iI_and1, iI_and7, iI_and63, iI_shr3, iI_shr6, rd_I, lgc, z_bit, ob, Option.some.injEq, exists_eq_left', exists_eq_left, true_and, and_true, fqI, fqJ, eq_self, true_or, or_true, bP_0, bP_0i, npP, bP_1i, bP_b, not_true_eq_false, not_false_eq_true, false_implies, true_implies, implies_true, Classical.not_not, and_self, cP, cP', ite_n, ite_T, ite_F, ite_t, ite_f]
theorem c_worthOf (H : LB h la) (L : LR h la s) (hS : SBd s) (n5 : s 5 ≤ 10) (bits : Int32) : wp_X10_worthOf h (la + 16) bits post ↔ post h (iI (foldI (sumF (sb bits) (fun w => s (175 + 5 * w + 4))) (s 5).toNat 0 0)) := by
  have s5 := hS 5 (by omega) (by omega)
  unfold wp_X10_worthOf
  have key := lp_fold (W := fun n (b : Int) k => wl_X10_worthOf_4 post n h (la + 16) bits (iI b) (iI k)) (E := fun b => post h (iI b)) (f := sumF (sb bits) (fun w => s (175 + 5 * w + 4))) (lo := 0) (hi := s 5) (fun _ _ => True) (by omega) (fun b i q => q) (fun n b k k1 k2 _ => ?_) (fun _ _ _ _ _ => trivial) (fun n b _ => ?_) 0 trivial
  · rw [Int.sub_zero] at key
    exact key
  · show wb_X10_worthOf_4 (wl_X10_worthOf_4 post n) h (la + 16) bits (iI b) (iI k) post ↔ _
    unfold wb_X10_worthOf_4 wb_X10_worthOf_29
    simp (disch := omega) only [LB.o0 H, LB.p2 H, LB.o1 H, LB.l1 H, LB.p3 H, LB.o2 H, LB.l2 H, LB.p4 H, LB.o3 H, LB.l3 H, LB.p6 H, LB.o4 H, LB.l4 H, LB.p7 H, LB.o5 H, LB.l5 H, LB.p8 H, LB.o6 H, LB.l6 H, LB.p9 H, LB.o7 H, LB.l7 H, LB.p10 H, LB.o8 H, LB.l8 H, LB.p12 H, LB.o9 H, LB.l9 H, LB.p14 H, LB.o10 H, LB.p15 H, LB.o16 H, LB.q10_1 H, LB.o11 H, LB.l11 H, LB.q10_2 H, LB.o12 H, LB.l12 H, LB.q10_3 H, LB.o13 H, LB.l13 H, LB.q10_4 H, LB.o14 H, LB.l14 H, LB.q10_5 H, LB.o15 H, LB.l15 H, LB.q16_1 H, LB.o17 H, LB.l17 H, LB.q16_2 H, LB.o18 H, LB.l18 H, LB.q16_3 H, LB.o19 H, LB.l19 H, LB.q16_4 H, LB.o20 H, LB.l20 H, fd0, fd1, fd2, fd3, fd4, fd5, fd6, fd7, fd8, fd9, fd10, fd11, fd12, fd13, fd14, fd15, fd16, fd17, fd18, fd19, fd20, fd21, fd22, fd23, fd24, fd25, fd26, fd27, fd28, fd29, fd30, fd31, fd32, fd33, fd34, fd35, fd36, fd37, fd38, fd39, fd40, fd41, fd42, fd43, fd44, fd45, fd46, fd47, fd48, fd49, fd50, fd51, fd52, LR.c0 L, LR.c1 L, LR.c5 L, LR.c11 L, LR.q0 L, LR.w0 L, LR.td L, LR.wi L, LR.hi L, LR.dr L, LR.po L, LR.ro L, LR.rp L, LR.rq L, LR.rh L, LR.mo L, LR.wk L, LR.wh L, LR.wt L, LR.ww L, -Int.reduceToNat, -Int32.reduceToNatClampNeg, il0, il1, il2, il3, il4, il5, il6, il7, il8, il9, il10, il11, il12, il13, il14, il15, il16, il17, il18, il19, il20, il21, il22, il23, il24, il25, il26, il27, il28, il29, il30, il31, il32, il35, il36, il38, il40, il42, il43, il44, il45, il46, il47, il48, il49, il50, il51, il52, il57, il59, il60, il63, il64, il75, il80, il95, il96, il97, il98, il99, il100, il120, il122, il123, il127, il128, il135, il167, il175, il225, il249, il250, il255, il256, il360, il370, il384, il600, il700, il740, il900, il940, il1024, il1600, il4800, il64000, il125000, il262143, il1000000000, iI_toInt, iI_add, iI_sub, iI_mul, iI_neg, iI_lt, iI_le, iI_eq, iI_n, iI_in, iI_div, iI_mod, iI_shm, iI_and1, iI_and7, iI_and63, iI_shr3, iI_shr6, rd_I, lgc, z_bit, ob, Option.some.injEq, exists_eq_left', exists_eq_left, true_and, and_true, fqI, fqJ, eq_self, true_or, or_true, bP_0, bP_0i, npP, bP_1i, bP_b, not_true_eq_false, not_false_eq_true, false_implies, true_implies, implies_true, Classical.not_not, and_self, cP, cP', ite_n, ite_T, ite_F, ite_t, ite_f, sb_0]
    unfold sumF
    by_cases c1 : sb bits k
    · rw [ite_t c1, ite_t c1]
    · rw [ite_f c1, ite_f c1]
  · show wb_X10_worthOf_4 (wl_X10_worthOf_4 post n) h (la + 16) bits (iI b) (iI _) post ↔ _
    unfold wb_X10_worthOf_4
    simp (disch := omega) only [LB.o0 H, LB.p2 H, LB.o1 H, LB.l1 H, LB.p3 H, LB.o2 H, LB.l2 H, LB.p4 H, LB.o3 H, LB.l3 H, LB.p6 H, LB.o4 H, LB.l4 H, LB.p7 H, LB.o5 H, LB.l5 H, LB.p8 H, LB.o6 H, LB.l6 H, LB.p9 H, LB.o7 H, LB.l7 H, LB.p10 H, LB.o8 H, LB.l8 H, LB.p12 H, LB.o9 H, LB.l9 H, LB.p14 H, LB.o10 H, LB.p15 H, LB.o16 H, LB.q10_1 H, LB.o11 H, LB.l11 H, LB.q10_2 H, LB.o12 H, LB.l12 H, LB.q10_3 H, LB.o13 H, LB.l13 H, LB.q10_4 H, LB.o14 H, LB.l14 H, LB.q10_5 H, LB.o15 H, LB.l15 H, LB.q16_1 H, LB.o17 H, LB.l17 H, LB.q16_2 H, LB.o18 H, LB.l18 H, LB.q16_3 H, LB.o19 H, LB.l19 H, LB.q16_4 H, LB.o20 H, LB.l20 H, fd0, fd1, fd2, fd3, fd4, fd5, fd6, fd7, fd8, fd9, fd10, fd11, fd12, fd13, fd14, fd15, fd16, fd17, fd18, fd19, fd20, fd21, fd22, fd23, fd24, fd25, fd26, fd27, fd28, fd29, fd30, fd31, fd32, fd33, fd34, fd35, fd36, fd37, fd38, fd39, fd40, fd41, fd42, fd43, fd44, fd45, fd46, fd47, fd48, fd49, fd50, fd51, fd52, LR.c0 L, LR.c1 L, LR.c5 L, LR.c11 L, LR.q0 L, LR.w0 L, LR.td L, LR.wi L, LR.hi L, LR.dr L, LR.po L, LR.ro L, LR.rp L, LR.rq L, LR.rh L, LR.mo L, LR.wk L, LR.wh L, LR.wt L, LR.ww L, -Int.reduceToNat, -Int32.reduceToNatClampNeg, il0, il1, il2, il3, il4, il5, il6, il7, il8, il9, il10, il11, il12, il13, il14, il15, il16, il17, il18, il19, il20, il21, il22, il23, il24, il25, il26, il27, il28, il29, il30, il31, il32, il35, il36, il38, il40, il42, il43, il44, il45, il46, il47, il48, il49, il50, il51, il52, il57, il59, il60, il63, il64, il75, il80, il95, il96, il97, il98, il99, il100, il120, il122, il123, il127, il128, il135, il167, il175, il225, il249, il250, il255, il256, il360, il370, il384, il600, il700, il740, il900, il940, il1024, il1600, il4800, il64000, il125000, il262143, il1000000000, iI_toInt, iI_add, iI_sub, iI_mul, iI_neg, iI_lt, iI_le, iI_eq, iI_n, iI_in, iI_div, iI_mod, iI_shm, iI_and1, iI_and7, iI_and63, iI_shr3, iI_shr6, rd_I, lgc, z_bit, ob, Option.some.injEq, exists_eq_left', exists_eq_left, true_and, and_true, fqI, fqJ, eq_self, true_or, or_true, bP_0, bP_0i, npP, bP_1i, bP_b, not_true_eq_false, not_false_eq_true, false_implies, true_implies, implies_true, Classical.not_not, and_self, cP, cP', ite_n, ite_T, ite_F, ite_t, ite_f]
end CWANT
