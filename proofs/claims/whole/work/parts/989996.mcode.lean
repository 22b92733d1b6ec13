/-! TOWNS as numbers in the model -/
def tuN (n : Int) (s t0 : Int → Int) (v : Int) : Int → Int := fun j => if 0 ≤ j ∧ j < 3 * n then (if j % 3 = 0 then dgB v (j / 3) / 2 % s 0 else if j % 3 = 1 then dgB v (j / 3) / 2 / s 0 else dgB v (j / 3) % 2) else t0 j
def lfN (v r : Int) : Int := if r = 0 then v else if r = 1 then v / 50 else if r = 2 then v / 2500 else v / 125000
section MCO
variable {h h1 h2 h' h0 g0 g : AH} {postV : AH → Prop} {post : AH → Int32 → Prop} {a b c d f i j k v w x y pl r hr how gl goal st u p o : Int} {s t t' t0 z T : Int → Int} {S : BS}
theorem m_code (M : MSh h) (s94 : rd h 94 = s) (h99 : rd h 99 = t) (b0 : 0 ≤ s 2) (b3 : s 2 ≤ 3) (K : post h (iI (cdB s t))) : wp_X12_code h 92 post := by
  have step : ∀ {K11 : AH → Nat → Int32 → Int32 → Prop} (a r : Int), 0 ≤ r → r < 3 → K11 h 92 (iI (50 * a + plB s t r)) (iI (r - 1)) → wb_X12_code_11 K11 h 92 (iI a) (iI r) post := by
    intro K11 a r r0 r1 k
    have e : 50 * a + 2 * (s 0 * t (3 * r + 1) + t (3 * r)) + t (3 * r + 2) = 50 * a + plB s t r := by unfold plB; omega
    unfold wb_X12_code_11
    simp (disch := omega) only [MSh.o0 M, MSh.p1 M, MSh.o1 M, MSh.l1 M, MSh.p6 M, MSh.o2 M, MSh.l2 M, MSh.p7 M, MSh.o3 M, MSh.l3 M, MSh.p8 M, MSh.o4 M, MSh.l4 M, MSh.p9 M, MSh.o5 M, MSh.l5 M, MSh.p10 M, MSh.o6 M, MSh.l6 M, MSh.p24 M, MSh.o7 M, MSh.l7 M, MSh.p25 M, MSh.o8 M, MSh.l8 M, MSh.p26 M, MSh.o9 M, MSh.l9 M, MSh.p32 M, MSh.o10 M, MSh.l10 M, MSh.p33 M, MSh.o11 M, MSh.l11 M, MSh.p35 M, MSh.o12 M, MSh.l12 M, MSh.p36 M, MSh.o13 M, MSh.l13 M, MSh.p37 M, MSh.o14 M, MSh.l14 M, MSh.p38 M, MSh.o15 M, MSh.l15 M, MSh.p39 M, MSh.o16 M, MSh.l16 M, MSh.p42 M, MSh.o17 M, MSh.l17 M, MSh.p43 M, MSh.o18 M, MSh.l18 M, MSh.p44 M, MSh.o19 M, MSh.l19 M, MSh.p45 M, MSh.o20 M, MSh.l20 M, MSh.p46 M, MSh.o21 M, MSh.l21 M, MSh.p47 M, MSh.o22 M, MSh.l22 M, MSh.p50 M, MSh.o23 M, MSh.l23 M, MSh.p51 M, MSh.o24 M, MSh.l24 M, MSh.p52 M, MSh.o25 M, MSh.l25 M, s94, h99, -Int.reduceToNat, -Int32.reduceToNatClampNeg, il0, il1, il2, il3, il4, il5, il6, il7, il8, il9, il10, il11, il12, il13, il14, il15, il16, il17, il18, il19, il20, il21, il22, il23, il24, il25, il26, il27, il28, il29, il30, il31, il32, il35, il36, il38, il40, il42, il43, il44, il45, il46, il47, il48, il49, il50, il51, il52, il57, il59, il60, il63, il64, il75, il80, il95, il96, il97, il98, il99, il100, il120, il122, il123, il127, il128, il135, il167, il175, il225, il249, il250, il255, il256, il360, il370, il384, il600, il700, il740, il900, il940, il1024, il1600, il4800, il64000, il125000, il262143, il1000000000, iI_toInt, iI_add, iI_sub, iI_mul, iI_neg, iI_lt, iI_le, iI_eq, iI_n, iI_in, iI_div, iI_mod, iI_shm, iI_and1, iI_and7, iI_and63, iI_shr3, iI_shr6, rd_I, ob, Option.some.injEq, exists_eq_left', exists_eq_left, true_and, and_true, fqI, fqJ, eq_self, true_or, or_true, bP_0, bP_0i, npP, bP_1i, bP_b, not_true_eq_false, not_false_eq_true, false_implies, true_implies, implies_true, Classical.not_not, and_self]
    rw [e, show r + -1 = r - 1 by omega]
    exact ⟨fun u => by omega, fun _ => k⟩
  have fin : ∀ {K11 : AH → Nat → Int32 → Int32 → Prop} (a : Int), post h (iI a) → wb_X12_code_11 K11 h 92 (iI a) (iI (-1)) post := fun a k => ⟨fun _ => k, fun u => absurd (by decide) u⟩
  unfold wp_X12_code
  simp (disch := omega) only [MSh.o0 M, MSh.p1 M, MSh.o1 M, MSh.l1 M, MSh.p6 M, MSh.o2 M, MSh.l2 M, MSh.p7 M, MSh.o3 M, MSh.l3 M, MSh.p8 M, MSh.o4 M, MSh.l4 M, MSh.p9 M, MSh.o5 M, MSh.l5 M, MSh.p10 M, MSh.o6 M, MSh.l6 M, MSh.p24 M, MSh.o7 M, MSh.l7 M, MSh.p25 M, MSh.o8 M, MSh.l8 M, MSh.p26 M, MSh.o9 M, MSh.l9 M, MSh.p32 M, MSh.o10 M, MSh.l10 M, MSh.p33 M, MSh.o11 M, MSh.l11 M, MSh.p35 M, MSh.o12 M, MSh.l12 M, MSh.p36 M, MSh.o13 M, MSh.l13 M, MSh.p37 M, MSh.o14 M, MSh.l14 M, MSh.p38 M, MSh.o15 M, MSh.l15 M, MSh.p39 M, MSh.o16 M, MSh.l16 M, MSh.p42 M, MSh.o17 M, MSh.l17 M, MSh.p43 M, MSh.o18 M, MSh.l18 M, MSh.p44 M, MSh.o19 M, MSh.l19 M, MSh.p45 M, MSh.o20 M, MSh.l20 M, MSh.p46 M, MSh.o21 M, MSh.l21 M, MSh.p47 M, MSh.o22 M, MSh.l22 M, MSh.p50 M, MSh.o23 M, MSh.l23 M, MSh.p51 M, MSh.o24 M, MSh.l24 M, MSh.p52 M, MSh.o25 M, MSh.l25 M, s94, -Int.reduceToNat, -Int32.reduceToNatClampNeg, il0, il1, il2, il3, il4, il5, il6, il7, il8, il9, il10, il11, il12, il13, il14, il15, il16, il17, il18, il19, il20, il21, il22, il23, il24, il25, il26, il27, il28, il29, il30, il31, il32, il35, il36, il38, il40, il42, il43, il44, il45, il46, il47, il48, il49, il50, il51, il52, il57, il59, il60, il63, il64, il75, il80, il95, il96, il97, il98, il99, il100, il120, il122, il123, il127, il128, il135, il167, il175, il225, il249, il250, il255, il256, il360, il370, il384, il600, il700, il740, il900, il940, il1024, il1600, il4800, il64000, il125000, il262143, il1000000000, iI_toInt, iI_add, iI_sub, iI_mul, iI_neg, iI_lt, iI_le, iI_eq, iI_n, iI_in, iI_div, iI_mod, iI_shm, iI_and1, iI_and7, iI_and63, iI_shr3, iI_shr6, rd_I, ob, Option.some.injEq, exists_eq_left', exists_eq_left, true_and, and_true, fqI, fqJ, eq_self, true_or, or_true, bP_0, bP_0i, npP, bP_1i, bP_b, not_true_eq_false, not_false_eq_true, false_implies, true_implies, implies_true, Classical.not_not, and_self]
  have e : s 2 = 0 ∨ s 2 = 1 ∨ s 2 = 2 ∨ s 2 = 3 := by omega
  rcases e with e | e | e | e
  · have ec : cdB s t = 0 := by unfold cdB; rw [if_neg (by omega), if_neg (by omega), if_neg (by omega)]; omega
    rw [ec] at K
    rw [e]
    exact ⟨1, fin 0 K⟩
  · have ec : cdB s t = 50 * 0 + plB s t 0 := by unfold cdB; rw [if_pos (by omega), if_neg (by omega), if_neg (by omega)]; omega
    rw [ec] at K
    rw [e]
    exact ⟨2, step 0 0 (by omega) (by omega) (fin _ K)⟩
  · have ec : cdB s t = 50 * (50 * 0 + plB s t 1) + plB s t 0 := by unfold cdB; rw [if_pos (by omega), if_pos (by omega), if_neg (by omega)]; omega
    rw [ec] at K
    rw [e]
    exact ⟨3, step 0 1 (by omega) (by omega) (step _ 0 (by omega) (by omega) (fin _ K))⟩
  · have ec : cdB s t = 50 * (50 * (50 * 0 + plB s t 2) + plB s t 1) + plB s t 0 := by unfold cdB; rw [if_pos (by omega), if_pos (by omega), if_pos (by omega)]; omega
    rw [ec] at K
    rw [e]
    exact ⟨4, step 0 2 (by omega) (by omega) (step _ 1 (by omega) (by omega) (step _ 0 (by omega) (by omega) (fin _ K)))⟩
theorem tuN_s (r0 : 0 ≤ r) : tuN (r + 1) s t0 v = tr3 (tuN r s t0 v) r (dgB v r / 2 % s 0) (dgB v r / 2 / s 0) (dgB v r % 2) := by
  funext j
  by_cases c0 : j = 3 * r
  · rw [c0, tr3_0]
    unfold tuN
    rw [if_pos (by omega), if_pos (by omega), show 3 * r / 3 = r by omega]
  · by_cases c1 : j = 3 * r + 1
    · rw [c1, tr3_1]
      unfold tuN
      rw [if_pos (by omega), if_neg (by omega), if_pos (by omega), show (3 * r + 1) / 3 = r by omega]
    · by_cases c2 : j = 3 * r + 2
      · rw [c2, tr3_2]
        unfold tuN
        rw [if_pos (by omega), if_neg (by omega), if_neg (by omega), show (3 * r + 2) / 3 = r by omega]
      · rw [tr3_n (by omega)]
        unfold tuN
        by_cases cj : 0 ≤ j ∧ j < 3 * r
        · rw [if_pos cj, if_pos (by omega)]
        · rw [if_neg cj, if_neg (by omega)]
theorem tuN_0 : tuN 0 s t0 v = t0 := by
  funext j
  unfold tuN
  rw [if_neg (by omega)]
theorem m_unfold (M : MSh h) (s94 : rd h 94 = s) (h99 : rd h 99 = t0) (b0 : 0 ≤ s 2) (b3 : s 2 ≤ 3) (n0 : 0 < s 2 → 1 ≤ s 0) (n8 : s 0 ≤ 8) (hv : 0 ≤ v ∧ v < 125000) (K : ∀ h', Fr [99] [] [] h h' → rd h' 99 = tuB s t0 v → postV h') : wp_X12_unfold h 92 (iI v) postV := by
  unfold wp_X12_unfold
  have l0 : lfN v 0 = v := by unfold lfN; rw [if_pos rfl]
  refine (lf_for (W := fun k (b : AH) r => wl_X12_unfold_4 postV k b 92 (iI (lfN v r)) (iI r)) (lo := 0) (hi := s 2) (fun r b => Fr [99] [] [] h b ∧ rd b 99 = tuN r s t0 v) b0 (fun k b r r0 r1 J nx => ?_) (fun k b J => ?_) h ⟨(Fr.refl h).mono (by simp) (by simp) (by simp), by rw [tuN_0]; exact h99⟩).imp fun k hk => by
    rw [l0] at hk
    exact hk
  · obtain ⟨Fb, eb⟩ := J
    have Mb := M.gr Fb.gr
    have sb' : rd b 94 = s := by rw [Fb.row (by simp)]; exact s94
    have n1 := n0 (by omega)
    have lb : 0 ≤ lfN v r ∧ lfN v r < 125000 ∧ lfN v r % 50 = dgB v r ∧ lfN v r / 50 = lfN v (r + 1) := by
      have e : r = 0 ∨ r = 1 ∨ r = 2 := by omega
      unfold lfN dgB p50
      rcases e with rfl | rfl | rfl
      · simp; omega
      · simp; omega
      · simp; omega
    have dg : 0 ≤ dgB v r ∧ dgB v r < 50 := by unfold dgB; omega
    have em : lfN v r - lfN v (r + 1) * 50 = dgB v r := by omega
    have ex : dgB v r / 2 - dgB v r / 2 / s 0 * s 0 = dgB v r / 2 % s 0 := by
      have := Int.mul_ediv_add_emod (dgB v r / 2) (s 0)
      rw [Int.mul_comm] at this
      omega
    have ey : dgB v r - dgB v r / 2 * 2 = dgB v r % 2 := by omega
    have xb : 0 ≤ dgB v r / 2 % s 0 ∧ dgB v r / 2 % s 0 < s 0 := ⟨Int.emod_nonneg _ (by omega), Int.emod_lt_of_pos _ (by omega)⟩
    have yb : 0 ≤ dgB v r / 2 / s 0 ∧ dgB v r / 2 / s 0 ≤ dgB v r / 2 := ⟨Int.ediv_nonneg (by omega) (by omega), Int.ediv_le_self _ (by omega)⟩
    have lb4 := lb.2.2.2
    show wb_X12_unfold_4 (wl_X12_unfold_4 postV k) b 92 (iI (lfN v r)) (iI r) postV
    unfold wb_X12_unfold_4
    simp (disch := omega) only [MSh.o0 Mb, MSh.p1 Mb, MSh.o1 Mb, MSh.l1 Mb, MSh.p6 Mb, MSh.o2 Mb, MSh.l2 Mb, MSh.p7 Mb, MSh.o3 Mb, MSh.l3 Mb, MSh.p8 Mb, MSh.o4 Mb, MSh.l4 Mb, MSh.p9 Mb, MSh.o5 Mb, MSh.l5 Mb, MSh.p10 Mb, MSh.o6 Mb, MSh.l6 Mb, MSh.p24 Mb, MSh.o7 Mb, MSh.l7 Mb, MSh.p25 Mb, MSh.o8 Mb, MSh.l8 Mb, MSh.p26 Mb, MSh.o9 Mb, MSh.l9 Mb, MSh.p32 Mb, MSh.o10 Mb, MSh.l10 Mb, MSh.p33 Mb, MSh.o11 Mb, MSh.l11 Mb, MSh.p35 Mb, MSh.o12 Mb, MSh.l12 Mb, MSh.p36 Mb, MSh.o13 Mb, MSh.l13 Mb, MSh.p37 Mb, MSh.o14 Mb, MSh.l14 Mb, MSh.p38 Mb, MSh.o15 Mb, MSh.l15 Mb, MSh.p39 Mb, MSh.o16 Mb, MSh.l16 Mb, MSh.p42 Mb, MSh.o17 Mb, MSh.l17 Mb, MSh.p43 Mb, MSh.o18 Mb, MSh.l18 Mb, MSh.p44 Mb, MSh.o19 Mb, MSh.l19 Mb, MSh.p45 Mb, MSh.o20 Mb, MSh.l20 Mb, MSh.p46 Mb, MSh.o21 Mb, MSh.l21 Mb, MSh.p47 Mb, MSh.o22 Mb, MSh.l22 Mb, MSh.p50 Mb, MSh.o23 Mb, MSh.l23 Mb, MSh.p51 Mb, MSh.o24 Mb, MSh.l24 Mb, MSh.p52 Mb, MSh.o25 Mb, MSh.l25 Mb, sb', em, ex, ey, lb4, -Int.reduceToNat, -Int32.reduceToNatClampNeg, il0, il1, il2, il3, il4, il5, il6, il7, il8, il9, il10, il11, il12, il13, il14, il15, il16, il17, il18, il19, il20, il21, il22, il23, il24, il25, il26, il27, il28, il29, il30, il31, il32, il35, il36, il38, il40, il42, il43, il44, il45, il46, il47, il48, il49, il50, il51, il52, il57, il59, il60, il63, il64, il75, il80, il95, il96, il97, il98, il99, il100, il120, il122, il123, il127, il128, il135, il167, il175, il225, il249, il250, il255, il256, il360, il370, il384, il600, il700, il740, il900, il940, il1024, il1600, il4800, il64000, il125000, il262143, il1000000000, iI_toInt, iI_add, iI_sub, iI_mul, iI_neg, iI_lt, iI_le, iI_eq, iI_n, iI_in, iI_div, iI_mod, iI_shm, iI_and1, iI_and7, iI_and63, iI_shr3, iI_shr6, rd_I, ob, Option.some.injEq, exists_eq_left', exists_eq_left, true_and, and_true, fqI, fqJ, eq_self, true_or, or_true, bP_0, bP_0i, npP, bP_1i, bP_b, not_true_eq_false, not_false_eq_true, false_implies, true_implies, implies_true, Classical.not_not, and_self]
    refine ⟨fun u => by omega, fun _ => ⟨by omega, ?_⟩⟩
    intro g1 w1
    obtain ⟨f1, r1'⟩ := wI (i := 3 * r) (by omega) (by omega) (by omega) w1
    have M1 := Mb.gr f1.gr
    have s1' : rd g1 94 = s := by rw [f1.row (by simp)]; exact sb'
    simp (disch := omega) only [MSh.o0 M1, MSh.p1 M1, MSh.o1 M1, MSh.l1 M1, MSh.p6 M1, MSh.o2 M1, MSh.l2 M1, MSh.p7 M1, MSh.o3 M1, MSh.l3 M1, MSh.p8 M1, MSh.o4 M1, MSh.l4 M1, MSh.p9 M1, MSh.o5 M1, MSh.l5 M1, MSh.p10 M1, MSh.o6 M1, MSh.l6 M1, MSh.p24 M1, MSh.o7 M1, MSh.l7 M1, MSh.p25 M1, MSh.o8 M1, MSh.l8 M1, MSh.p26 M1, MSh.o9 M1, MSh.l9 M1, MSh.p32 M1, MSh.o10 M1, MSh.l10 M1, MSh.p33 M1, MSh.o11 M1, MSh.l11 M1, MSh.p35 M1, MSh.o12 M1, MSh.l12 M1, MSh.p36 M1, MSh.o13 M1, MSh.l13 M1, MSh.p37 M1, MSh.o14 M1, MSh.l14 M1, MSh.p38 M1, MSh.o15 M1, MSh.l15 M1, MSh.p39 M1, MSh.o16 M1, MSh.l16 M1, MSh.p42 M1, MSh.o17 M1, MSh.l17 M1, MSh.p43 M1, MSh.o18 M1, MSh.l18 M1, MSh.p44 M1, MSh.o19 M1, MSh.l19 M1, MSh.p45 M1, MSh.o20 M1, MSh.l20 M1, MSh.p46 M1, MSh.o21 M1, MSh.l21 M1, MSh.p47 M1, MSh.o22 M1, MSh.l22 M1, MSh.p50 M1, MSh.o23 M1, MSh.l23 M1, MSh.p51 M1, MSh.o24 M1, MSh.l24 M1, MSh.p52 M1, MSh.o25 M1, MSh.l25 M1, s1', -Int.reduceToNat, -Int32.reduceToNatClampNeg, il0, il1, il2, il3, il4, il5, il6, il7, il8, il9, il10, il11, il12, il13, il14, il15, il16, il17, il18, il19, il20, il21, il22, il23, il24, il25, il26, il27, il28, il29, il30, il31, il32, il35, il36, il38, il40, il42, il43, il44, il45, il46, il47, il48, il49, il50, il51, il52, il57, il59, il60, il63, il64, il75, il80, il95, il96, il97, il98, il99, il100, il120, il122, il123, il127, il128, il135, il167, il175, il225, il249, il250, il255, il256, il360, il370, il384, il600, il700, il740, il900, il940, il1024, il1600, il4800, il64000, il125000, il262143, il1000000000, iI_toInt, iI_add, iI_sub, iI_mul, iI_neg, iI_lt, iI_le, iI_eq, iI_n, iI_in, iI_div, iI_mod, iI_shm, iI_and1, iI_and7, iI_and63, iI_shr3, iI_shr6, rd_I, ob, Option.some.injEq, exists_eq_left', exists_eq_left, true_and, and_true, fqI, fqJ, eq_self, true_or, or_true, bP_0, bP_0i, npP, bP_1i, bP_b, not_true_eq_false, not_false_eq_true, false_implies, true_implies, implies_true, Classical.not_not, and_self]
    refine ⟨by omega, ?_⟩
    intro g2 w2
    obtain ⟨f2, r2'⟩ := wI (i := 3 * r + 1) (by omega) (by omega) (by omega) w2
    have M2 := M1.gr f2.gr
    simp (disch := omega) only [MSh.o0 M2, MSh.p1 M2, MSh.o1 M2, MSh.l1 M2, MSh.p6 M2, MSh.o2 M2, MSh.l2 M2, MSh.p7 M2, MSh.o3 M2, MSh.l3 M2, MSh.p8 M2, MSh.o4 M2, MSh.l4 M2, MSh.p9 M2, MSh.o5 M2, MSh.l5 M2, MSh.p10 M2, MSh.o6 M2, MSh.l6 M2, MSh.p24 M2, MSh.o7 M2, MSh.l7 M2, MSh.p25 M2, MSh.o8 M2, MSh.l8 M2, MSh.p26 M2, MSh.o9 M2, MSh.l9 M2, MSh.p32 M2, MSh.o10 M2, MSh.l10 M2, MSh.p33 M2, MSh.o11 M2, MSh.l11 M2, MSh.p35 M2, MSh.o12 M2, MSh.l12 M2, MSh.p36 M2, MSh.o13 M2, MSh.l13 M2, MSh.p37 M2, MSh.o14 M2, MSh.l14 M2, MSh.p38 M2, MSh.o15 M2, MSh.l15 M2, MSh.p39 M2, MSh.o16 M2, MSh.l16 M2, MSh.p42 M2, MSh.o17 M2, MSh.l17 M2, MSh.p43 M2, MSh.o18 M2, MSh.l18 M2, MSh.p44 M2, MSh.o19 M2, MSh.l19 M2, MSh.p45 M2, MSh.o20 M2, MSh.l20 M2, MSh.p46 M2, MSh.o21 M2, MSh.l21 M2, MSh.p47 M2, MSh.o22 M2, MSh.l22 M2, MSh.p50 M2, MSh.o23 M2, MSh.l23 M2, MSh.p51 M2, MSh.o24 M2, MSh.l24 M2, MSh.p52 M2, MSh.o25 M2, MSh.l25 M2, -Int.reduceToNat, -Int32.reduceToNatClampNeg, il0, il1, il2, il3, il4, il5, il6, il7, il8, il9, il10, il11, il12, il13, il14, il15, il16, il17, il18, il19, il20, il21, il22, il23, il24, il25, il26, il27, il28, il29, il30, il31, il32, il35, il36, il38, il40, il42, il43, il44, il45, il46, il47, il48, il49, il50, il51, il52, il57, il59, il60, il63, il64, il75, il80, il95, il96, il97, il98, il99, il100, il120, il122, il123, il127, il128, il135, il167, il175, il225, il249, il250, il255, il256, il360, il370, il384, il600, il700, il740, il900, il940, il1024, il1600, il4800, il64000, il125000, il262143, il1000000000, iI_toInt, iI_add, iI_sub, iI_mul, iI_neg, iI_lt, iI_le, iI_eq, iI_n, iI_in, iI_div, iI_mod, iI_shm, iI_and1, iI_and7, iI_and63, iI_shr3, iI_shr6, rd_I, ob, Option.some.injEq, exists_eq_left', exists_eq_left, true_and, and_true, fqI, fqJ, eq_self, true_or, or_true, bP_0, bP_0i, npP, bP_1i, bP_b, not_true_eq_false, not_false_eq_true, false_implies, true_implies, implies_true, Classical.not_not, and_self]
    intro g3 w3
    obtain ⟨f3, r3'⟩ := wI (i := 3 * r + 2) (by omega) (by omega) (by omega) w3
    refine nx g3 ⟨Fb.trans (f1.trans (f2.trans f3)), ?_⟩
    rw [tuN_s r0, r3', r2', r1', eb]
    rfl
  · obtain ⟨Fb, eb⟩ := J
    have Mb := M.gr Fb.gr
    have sb' : rd b 94 = s := by rw [Fb.row (by simp)]; exact s94
    show wb_X12_unfold_4 (wl_X12_unfold_4 postV k) b 92 (iI (lfN v (s 2))) (iI (s 2)) postV
    unfold wb_X12_unfold_4
    simp (disch := omega) only [MSh.o0 Mb, MSh.p1 Mb, MSh.o1 Mb, MSh.l1 Mb, MSh.p6 Mb, MSh.o2 Mb, MSh.l2 Mb, MSh.p7 Mb, MSh.o3 Mb, MSh.l3 Mb, MSh.p8 Mb, MSh.o4 Mb, MSh.l4 Mb, MSh.p9 Mb, MSh.o5 Mb, MSh.l5 Mb, MSh.p10 Mb, MSh.o6 Mb, MSh.l6 Mb, MSh.p24 Mb, MSh.o7 Mb, MSh.l7 Mb, MSh.p25 Mb, MSh.o8 Mb, MSh.l8 Mb, MSh.p26 Mb, MSh.o9 Mb, MSh.l9 Mb, MSh.p32 Mb, MSh.o10 Mb, MSh.l10 Mb, MSh.p33 Mb, MSh.o11 Mb, MSh.l11 Mb, MSh.p35 Mb, MSh.o12 Mb, MSh.l12 Mb, MSh.p36 Mb, MSh.o13 Mb, MSh.l13 Mb, MSh.p37 Mb, MSh.o14 Mb, MSh.l14 Mb, MSh.p38 Mb, MSh.o15 Mb, MSh.l15 Mb, MSh.p39 Mb, MSh.o16 Mb, MSh.l16 Mb, MSh.p42 Mb, MSh.o17 Mb, MSh.l17 Mb, MSh.p43 Mb, MSh.o18 Mb, MSh.l18 Mb, MSh.p44 Mb, MSh.o19 Mb, MSh.l19 Mb, MSh.p45 Mb, MSh.o20 Mb, MSh.l20 Mb, MSh.p46 Mb, MSh.o21 Mb, MSh.l21 Mb, MSh.p47 Mb, MSh.o22 Mb, MSh.l22 Mb, MSh.p50 Mb, MSh.o23 Mb, MSh.l23 Mb, MSh.p51 Mb, MSh.o24 Mb, MSh.l24 Mb, MSh.p52 Mb, MSh.o25 Mb, MSh.l25 Mb, sb', -Int.reduceToNat, -Int32.reduceToNatClampNeg, il0, il1, il2, il3, il4, il5, il6, il7, il8, il9, il10, il11, il12, il13, il14, il15, il16, il17, il18, il19, il20, il21, il22, il23, il24, il25, il26, il27, il28, il29, il30, il31, il32, il35, il36, il38, il40, il42, il43, il44, il45, il46, il47, il48, il49, il50, il51, il52, il57, il59, il60, il63, il64, il75, il80, il95, il96, il97, il98, il99, il100, il120, il122, il123, il127, il128, il135, il167, il175, il225, il249, il250, il255, il256, il360, il370, il384, il600, il700, il740, il900, il940, il1024, il1600, il4800, il64000, il125000, il262143, il1000000000, iI_toInt, iI_add, iI_sub, iI_mul, iI_neg, iI_lt, iI_le, iI_eq, iI_n, iI_in, iI_div, iI_mod, iI_shm, iI_and1, iI_and7, iI_and63, iI_shr3, iI_shr6, rd_I, ob, Option.some.injEq, exists_eq_left', exists_eq_left, true_and, and_true, fqI, fqJ, eq_self, true_or, or_true, bP_0, bP_0i, npP, bP_1i, bP_b, not_true_eq_false, not_false_eq_true, false_implies, true_implies, implies_true, Classical.not_not, and_self]
    exact ⟨fun _ => K b Fb eb, fun u => by omega⟩
end MCO
