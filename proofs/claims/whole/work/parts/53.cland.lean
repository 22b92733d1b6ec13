/-! where a SLIDE or a TURN leads, in the class -/
def enc (t : Int → Int) (r : Int) : Int := 8 * t (3 * r + 1) + t (3 * r) + 64 * t (3 * r + 2)
def EZ (z s : Int → Int) : Prop := ∀ i, 0 ≤ i → i < 24 → z i = s (99 + i)
def PoOk (s : Int → Int) : Prop := ∀ k, 0 ≤ k → k < s 3 → s (123 + 2 * k) < 8 ∧ s (123 + 2 * k + 1) < 8
def Spot (t z : Int → Int) (r : Int) : Prop := (0 ≤ t (3 * r) ∧ t (3 * r) < 8) ∧ (0 ≤ t (3 * r + 1) ∧ t (3 * r + 1) < 8) ∧ (0 ≤ t (3 * r + 2) ∧ t (3 * r + 2) ≤ 1) ∧ (z (3 * r) = z (3 * r + 1) → t (3 * r + 2) = 0)
noncomputable def lndT (s t z : Int → Int) (r how : Int) : Int := iteP (how = 4 ∧ polT s t z r = -1) (-2) (iteP (insT s (candT s t z r how) z r) (enc (candT s t z r how) r) (-3))
section CLAND
variable {h : AH} {la : Nat} {s t z : Int → Int} {post : AH → Int32 → Prop} {a b c d r x y n sp sq w hh u hr how : Int}
theorem EZ.at (e : EZ z s) (h1 : 0 ≤ r) (h2 : r < 8) : z (3 * r) = s (99 + 3 * r) ∧ z (3 * r + 1) = s (99 + 3 * r + 1) ∧ z (3 * r + 2) = s (99 + 3 * r + 2) := by
  refine ⟨e _ (by omega) (by omega), ?_, ?_⟩
  · rw [e _ (by omega) (by omega)]; congr 1; omega
  · rw [e _ (by omega) (by omega)]; congr 1; omega
theorem Z1.of (e : EZ z s) (hD : SD s) (h1 : 0 ≤ r) (h2 : r < s 2) (h8 : s 2 ≤ 8) : Z1 z r := by
  obtain ⟨e0, e1, -⟩ := e.at h1 (show r < 8 by omega)
  unfold Z1
  rw [e0, e1]
  exact (hD.2.2 r h1 h2).1
theorem wsp_enc (e : EZ z s) (h1 : 0 ≤ r) (h2 : r < 8) (hS : Spot t z r) : wsp s r (enc t r) = wdT t z r ∧ hsp s r (enc t r) = hiT t z r := by
  obtain ⟨⟨a1, a2⟩, ⟨b1, b2⟩, ⟨c1, c2⟩, -⟩ := hS
  obtain ⟨e0, e1, -⟩ := e.at h1 h2
  unfold wsp hsp enc wdT hiT
  by_cases cu : t (3 * r + 2) = 0
  · rw [cu, if_neg (by omega), if_neg (by omega), show 3 * r + 0 = 3 * r by omega, show 3 * r + 1 - 0 = 3 * r + 1 by omega, e0, e1]
    exact ⟨rfl, rfl⟩
  · rw [show t (3 * r + 2) = 1 by omega, if_pos (by omega), if_pos (by omega), show 3 * r + 1 - 1 = 3 * r by omega, e0, e1]
    exact ⟨rfl, rfl⟩
theorem enc_nums (hS : Spot t z r) : (0 ≤ enc t r ∧ enc t r < 128) ∧ enc t r % 8 = t (3 * r) ∧ enc t r / 8 % 8 = t (3 * r + 1) ∧ enc t r / 64 = t (3 * r + 2) ∧ enc t r % 64 = 8 * t (3 * r + 1) + t (3 * r) := by
  obtain ⟨⟨a1, a2⟩, ⟨b1, b2⟩, ⟨c1, c2⟩, -⟩ := hS
  unfold enc
  omega
theorem Spot.P1 (hS : Spot t z r) : P1 t r := by
  obtain ⟨⟨a1, a2⟩, ⟨b1, b2⟩, ⟨c1, c2⟩, -⟩ := hS
  exact ⟨by omega, by omega, by omega⟩
/-- what covers the cells of a spot that is all within -/
theorem zb_spot (hS : Spot t z r) (hI : in8 t z r) (hZ : Z1 z r) (x1 : 0 ≤ x) (x2 : x < 8) (y1 : 0 ≤ y) (y2 : y < 8) : zb (cvZ (wdT t z r) (hiT t z r) (enc t r % 64)) (8 * y + x) ↔ onT t z r x y := by
  have w := wd_Z hS.P1 hZ
  rw [(enc_nums hS).2.2.2.2, zb_cv (by omega) (by omega) hI.1 hI.2.2.1 hI.2.1 hI.2.2.2 hS.1.2 hS.2.1.2 x1 x2 y1 y2]
  exact Iff.rfl
theorem c_land144 (H : LB h la) (L : LR h la s) (hS : SBd s) (hD : SD s) (n0 : s 0 ≤ 8) (n1 : s 1 ≤ 8) (n2 : s 2 ≤ 8) (e : EZ z s) (h1 : 0 ≤ r) (h2 : r < s 2) (hx : -50 ≤ x ∧ x ≤ 50) (hy : -50 ≤ y ∧ y ≤ 50) (hu : 0 ≤ u ∧ u ≤ 1) :
    wb_X1_landing_144 h la (iI r) (iI x) (iI y) (iI u) post ↔ post h (iI (iteP (insT s (tr3 t r x y (if z (3 * r) = z (3 * r + 1) then 0 else u)) z r) (enc (tr3 t r x y (if z (3 * r) = z (3 * r + 1) then 0 else u)) r) (-3))) := by
  have s0 := hS 0 (by omega) (by omega)
  have s1 := hS 1 (by omega) (by omega)
  obtain ⟨e0, e1, -⟩ := e.at h1 (show r < 8 by omega)
  have hZ := Z1.of e hD h1 h2 n2
  generalize hv : (if z (3 * r) = z (3 * r + 1) then 0 else u) = v
  have hv' : 0 ≤ v ∧ v ≤ 1 := by rw [← hv]; split <;> omega
  have hsq : z (3 * r) = z (3 * r + 1) → v = 0 := fun q => by rw [← hv, if_pos q]
  have hP : P1 (tr3 t r x y v) r := tr3_P1 ⟨by omega, by omega⟩ ⟨by omega, by omega⟩ hv'
  have w := wd_Z hP hZ
  unfold wb_X1_landing_144
  simp (disch := omega) only [LB.o0 H, LB.p2 H, LB.o1 H, LB.l1 H, LB.p3 H, LB.o2 H, LB.l2 H, LB.p4 H, LB.o3 H, LB.l3 H, LB.p6 H, LB.o4 H, LB.l4 H, LB.p7 H, LB.o5 H, LB.l5 H, LB.p8 H, LB.o6 H, LB.l6 H, LB.p9 H, LB.o7 H, LB.l7 H, LB.p10 H, LB.o8 H, LB.l8 H, LB.p12 H, LB.o9 H, LB.l9 H, LB.p14 H, LB.o10 H, LB.p15 H, LB.o16 H, LB.q10_1 H, LB.o11 H, LB.l11 H, LB.q10_2 H, LB.o12 H, LB.l12 H, LB.q10_3 H, LB.o13 H, LB.l13 H, LB.q10_4 H, LB.o14 H, LB.l14 H, LB.q10_5 H, LB.o15 H, LB.l15 H, LB.q16_1 H, LB.o17 H, LB.l17 H, LB.q16_2 H, LB.o18 H, LB.l18 H, LB.q16_3 H, LB.o19 H, LB.l19 H, LB.q16_4 H, LB.o20 H, LB.l20 H, -Int.reduceToNat, -Int32.reduceToNatClampNeg, il0, il1, il2, il3, il4, il5, il6, il7, il8, il9, il10, il11, il12, il13, il14, il15, il16, il17, il18, il19, il20, il21, il22, il23, il24, il25, il26, il27, il28, il29, il30, il31, il32, il35, il36, il38, il40, il42, il43, il44, il45, il46, il47, il48, il49, il50, il51, il52, il57, il59, il60, il63, il64, il75, il80, il95, il96, il97, il98, il99, il100, il120, il122, il123, il127, il128, il135, il167, il175, il225, il249, il250, il255, il256, il360, il370, il384, il600, il700, il740, il900, il940, il1024, il1600, il4800, il64000, il125000, il262143, il1000000000, iI_toInt, iI_add, iI_sub, iI_mul, iI_neg, iI_lt, iI_le, iI_eq, iI_n, iI_in, iI_div, iI_mod, iI_shm, iI_and1, iI_and7, iI_and63, iI_shr3, iI_shr6, rd_I, lgc, z_bit, ob, Option.some.injEq, exists_eq_left', exists_eq_left, true_and, and_true, forall_eq, forall_eq_apply_imp_iff, eq_self, true_or, or_true, bP_0, bP_0i, npP, bP_1i, bP_b, not_true_eq_false, not_false_eq_true, false_implies, true_implies, implies_true, Classical.not_not, and_self, cP, cP', ite_n, c_hasCell H L]
  by_cases c : 0 ≤ x ∧ x < s 0 ∧ 0 ≤ y ∧ y < s 1
  · rw [ite_t c]
    obtain ⟨c1, c2, c3, c4⟩ := c
    have hSp : Spot (tr3 t r x y v) z r := by
      unfold Spot
      rw [tr3_0, tr3_1, tr3_2]
      exact ⟨⟨c1, by omega⟩, ⟨c3, by omega⟩, hv', hsq⟩
    have en := enc_nums hSp
    obtain ⟨ew, eh⟩ := wsp_enc e h1 (show r < 8 by omega) hSp
    have ee : (if s (99 + 3 * r) = s (99 + 3 * r + 1) then 8 * y + x else 8 * y + x + 64 * u) = enc (tr3 t r x y v) r := by
      unfold enc
      rw [tr3_0, tr3_1, tr3_2, ← hv, e0, e1]
      split <;> omega
    rw [c_spotOf H L hS h1 h2 n2 (by omega) (by omega) hu.1 hu.2, ee]
    simp (disch := omega) only [LB.o0 H, LB.p2 H, LB.o1 H, LB.l1 H, LB.p3 H, LB.o2 H, LB.l2 H, LB.p4 H, LB.o3 H, LB.l3 H, LB.p6 H, LB.o4 H, LB.l4 H, LB.p7 H, LB.o5 H, LB.l5 H, LB.p8 H, LB.o6 H, LB.l6 H, LB.p9 H, LB.o7 H, LB.l7 H, LB.p10 H, LB.o8 H, LB.l8 H, LB.p12 H, LB.o9 H, LB.l9 H, LB.p14 H, LB.o10 H, LB.p15 H, LB.o16 H, LB.q10_1 H, LB.o11 H, LB.l11 H, LB.q10_2 H, LB.o12 H, LB.l12 H, LB.q10_3 H, LB.o13 H, LB.l13 H, LB.q10_4 H, LB.o14 H, LB.l14 H, LB.q10_5 H, LB.o15 H, LB.l15 H, LB.q16_1 H, LB.o17 H, LB.l17 H, LB.q16_2 H, LB.o18 H, LB.l18 H, LB.q16_3 H, LB.o19 H, LB.l19 H, LB.q16_4 H, LB.o20 H, LB.l20 H, -Int.reduceToNat, -Int32.reduceToNatClampNeg, il0, il1, il2, il3, il4, il5, il6, il7, il8, il9, il10, il11, il12, il13, il14, il15, il16, il17, il18, il19, il20, il21, il22, il23, il24, il25, il26, il27, il28, il29, il30, il31, il32, il35, il36, il38, il40, il42, il43, il44, il45, il46, il47, il48, il49, il50, il51, il52, il57, il59, il60, il63, il64, il75, il80, il95, il96, il97, il98, il99, il100, il120, il122, il123, il127, il128, il135, il167, il175, il225, il249, il250, il255, il256, il360, il370, il384, il600, il700, il740, il900, il940, il1024, il1600, il4800, il64000, il125000, il262143, il1000000000, iI_toInt, iI_add, iI_sub, iI_mul, iI_neg, iI_lt, iI_le, iI_eq, iI_n, iI_in, iI_div, iI_mod, iI_shm, iI_and1, iI_and7, iI_and63, iI_shr3, iI_shr6, rd_I, lgc, z_bit, ob, Option.some.injEq, exists_eq_left', exists_eq_left, true_and, and_true, forall_eq, forall_eq_apply_imp_iff, eq_self, true_or, or_true, bP_0, bP_0i, npP, bP_1i, bP_b, not_true_eq_false, not_false_eq_true, false_implies, true_implies, implies_true, Classical.not_not, and_self, cP, cP', ite_n, c_holds H L hS hD h1 h2 n2, ew, eh]
    rw [en.2.1, en.2.2.1, tr3_0, tr3_1]
    by_cases ci : insT s (tr3 t r x y v) z r
    · have ci' := ci
      obtain ⟨i1, i2, i3, i4⟩ := ci'
      rw [tr3_0] at i3
      rw [tr3_1] at i4
      rw [ite_t ⟨i3, i4⟩, ite_t ci]
    · rw [ite_f ci, ite_f]
      intro q
      apply ci
      unfold insT
      rw [tr3_0, tr3_1]
      exact ⟨c1, c3, q.1, q.2⟩
  · rw [ite_f c, ite_f]
    intro q
    obtain ⟨i1, i2, i3, i4⟩ := q
    rw [tr3_0] at i1 i3
    rw [tr3_1] at i2 i4
    omega
theorem c_landing (H : LB h la) (L : LR h la s) (hS : SBd s) (hD : SD s) (hp : PoOk s) (n0 : s 0 ≤ 8) (n1 : s 1 ≤ 8) (n2 : s 2 ≤ 8) (n3 : s 3 ≤ 6) (e : EZ z s) (h1 : 0 ≤ r) (h2 : r < s 2) (hSp : Spot t z r) (hI : in8 t z r) (h3 : 0 ≤ how) (h4 : how ≤ 4) :
    wp_X1_landing h la (iI r) (iI (enc t r)) (iI how) post ↔ post h (iI (lndT s t z r how)) := by
  have hZ := Z1.of e hD h1 h2 n2
  have en := enc_nums hSp
  obtain ⟨ew, eh⟩ := wsp_enc e h1 (show r < 8 by omega) hSp
  have w := wd_Z hSp.P1 hZ
  have hSp' := hSp
  obtain ⟨⟨a1, a2⟩, ⟨b1, b2⟩, ⟨u1, u2⟩, hsq⟩ := hSp'
  have s3 := hS 3 (by omega) (by omega)
  obtain ⟨⟨en0, en1⟩, en2, en3, en4, en5⟩ := en
  have ep : polZ s (cvZ (wdT t z r) (hiT t z r) (enc t r % 64)) = polT s t z r := by
    unfold polZ polT
    refine fstI_c _ _ fun k k1 k2 => ?_
    have := hp k k1 (by omega)
    have g1 := hS (123 + 2 * k) (by omega) (by omega)
    have g2 := hS (123 + 2 * k + 1) (by omega) (by omega)
    exact zb_spot hSp hI hZ g1.1 this.1 g2.1 this.2
  unfold wp_X1_landing wb_X1_landing_118 wb_X1_landing_141 lndT
  by_cases c4 : how = 4
  · subst c4
    simp (disch := omega) only [LB.o0 H, LB.p2 H, LB.o1 H, LB.l1 H, LB.p3 H, LB.o2 H, LB.l2 H, LB.p4 H, LB.o3 H, LB.l3 H, LB.p6 H, LB.o4 H, LB.l4 H, LB.p7 H, LB.o5 H, LB.l5 H, LB.p8 H, LB.o6 H, LB.l6 H, LB.p9 H, LB.o7 H, LB.l7 H, LB.p10 H, LB.o8 H, LB.l8 H, LB.p12 H, LB.o9 H, LB.l9 H, LB.p14 H, LB.o10 H, LB.p15 H, LB.o16 H, LB.q10_1 H, LB.o11 H, LB.l11 H, LB.q10_2 H, LB.o12 H, LB.l12 H, LB.q10_3 H, LB.o13 H, LB.l13 H, LB.q10_4 H, LB.o14 H, LB.l14 H, LB.q10_5 H, LB.o15 H, LB.l15 H, LB.q16_1 H, LB.o17 H, LB.l17 H, LB.q16_2 H, LB.o18 H, LB.l18 H, LB.q16_3 H, LB.o19 H, LB.l19 H, LB.q16_4 H, LB.o20 H, LB.l20 H, -Int.reduceToNat, -Int32.reduceToNatClampNeg, il0, il1, il2, il3, il4, il5, il6, il7, il8, il9, il10, il11, il12, il13, il14, il15, il16, il17, il18, il19, il20, il21, il22, il23, il24, il25, il26, il27, il28, il29, il30, il31, il32, il35, il36, il38, il40, il42, il43, il44, il45, il46, il47, il48, il49, il50, il51, il52, il57, il59, il60, il63, il64, il75, il80, il95, il96, il97, il98, il99, il100, il120, il122, il123, il127, il128, il135, il167, il175, il225, il249, il250, il255, il256, il360, il370, il384, il600, il700, il740, il900, il940, il1024, il1600, il4800, il64000, il125000, il262143, il1000000000, iI_toInt, iI_add, iI_sub, iI_mul, iI_neg, iI_lt, iI_le, iI_eq, iI_n, iI_in, iI_div, iI_mod, iI_shm, iI_and1, iI_and7, iI_and63, iI_shr3, iI_shr6, rd_I, lgc, z_bit, ob, Option.some.injEq, exists_eq_left', exists_eq_left, true_and, and_true, forall_eq, forall_eq_apply_imp_iff, eq_self, true_or, or_true, bP_0, bP_0i, npP, bP_1i, bP_b, not_true_eq_false, not_false_eq_true, false_implies, true_implies, implies_true, Classical.not_not, and_self, cP, cP', ite_n, ite_T, ite_F, ite_t, ite_f, en2, en3, en4, c_coverAt H L hD h1 h2 n2, ew, eh, c_poleUnder H L hS n3 hp, ep]
    rcases fstI_spec (P := fun k => onT t z r (s (123 + 2 * k)) (s (123 + 2 * k + 1))) (s 3).toNat 0 (by omega) with ⟨q, -⟩ | ⟨q1, q2, q3, -⟩
    · have q : polT s t z r = -1 := q
      rw [q, show pcell s (-1) = -1 by unfold pcell; rw [if_pos (by omega)]]
      simp (disch := omega) only [-Int.reduceToNat, -Int32.reduceToNatClampNeg, il0, il1, il2, il3, il4, il5, il6, il7, il8, il9, il10, il11, il12, il13, il14, il15, il16, il17, il18, il19, il20, il21, il22, il23, il24, il25, il26, il27, il28, il29, il30, il31, il32, il35, il36, il38, il40, il42, il43, il44, il45, il46, il47, il48, il49, il50, il51, il52, il57, il59, il60, il63, il64, il75, il80, il95, il96, il97, il98, il99, il100, il120, il122, il123, il127, il128, il135, il167, il175, il225, il249, il250, il255, il256, il360, il370, il384, il600, il700, il740, il900, il940, il1024, il1600, il4800, il64000, il125000, il262143, il1000000000, iI_toInt, iI_add, iI_sub, iI_mul, iI_neg, iI_lt, iI_le, iI_eq, iI_n, iI_in, iI_div, iI_mod, iI_shm, iI_and1, iI_and7, iI_and63, iI_shr3, iI_shr6, rd_I, lgc, z_bit, ob, Option.some.injEq, exists_eq_left', exists_eq_left, true_and, and_true, forall_eq, forall_eq_apply_imp_iff, eq_self, true_or, or_true, bP_0, bP_0i, npP, bP_1i, bP_b, not_true_eq_false, not_false_eq_true, false_implies, true_implies, implies_true, Classical.not_not, and_self, cP, cP', ite_n, ite_T, ite_F, ite_t, ite_f]
    · have q1 : 0 ≤ polT s t z r := q1
      have q2 : polT s t z r < 0 + ((s 3).toNat : Int) := q2
      have q3 : onT t z r (s (123 + 2 * polT s t z r)) (s (123 + 2 * polT s t z r + 1)) := q3
      have pb := hp _ q1 (by omega)
      have g1 := hS (123 + 2 * polT s t z r) (by omega) (by omega)
      have g2 := hS (123 + 2 * polT s t z r + 1) (by omega) (by omega)
      rw [show pcell s (polT s t z r) = 8 * s (123 + 2 * polT s t z r + 1) + s (123 + 2 * polT s t z r) by unfold pcell; rw [if_neg (by omega)]]
      rw [ite_f (c := polT s t z r = -1) (by omega)]
      have cc : candT s t z r 4 = tr3 t r (s (123 + 2 * polT s t z r) + s (123 + 2 * polT s t z r + 1) - (t (3 * r + 1) + hiT t z r - 1)) (s (123 + 2 * polT s t z r + 1) + t (3 * r) - s (123 + 2 * polT s t z r)) (if z (3 * r) = z (3 * r + 1) then 0 else 1 - t (3 * r + 2)) := by
        unfold candT trnT
        rw [if_pos rfl]
        congr 1
        omega
      rw [cc, ← c_land144 (post := post) (t := t) (x := s (123 + 2 * polT s t z r) + s (123 + 2 * polT s t z r + 1) - (t (3 * r + 1) + hiT t z r - 1)) (y := s (123 + 2 * polT s t z r + 1) + t (3 * r) - s (123 + 2 * polT s t z r)) (u := 1 - t (3 * r + 2)) H L hS hD n0 n1 n2 e h1 h2 ⟨by omega, by omega⟩ ⟨by omega, by omega⟩ ⟨by omega, by omega⟩]
      have f1 : (8 * s (123 + 2 * polT s t z r + 1) + s (123 + 2 * polT s t z r)) % 8 = s (123 + 2 * polT s t z r) := by omega
      have f2 : (8 * s (123 + 2 * polT s t z r + 1) + s (123 + 2 * polT s t z r)) / 8 = s (123 + 2 * polT s t z r + 1) := by omega
      simp (disch := omega) only [LB.o0 H, LB.p2 H, LB.o1 H, LB.l1 H, LB.p3 H, LB.o2 H, LB.l2 H, LB.p4 H, LB.o3 H, LB.l3 H, LB.p6 H, LB.o4 H, LB.l4 H, LB.p7 H, LB.o5 H, LB.l5 H, LB.p8 H, LB.o6 H, LB.l6 H, LB.p9 H, LB.o7 H, LB.l7 H, LB.p10 H, LB.o8 H, LB.l8 H, LB.p12 H, LB.o9 H, LB.l9 H, LB.p14 H, LB.o10 H, LB.p15 H, LB.o16 H, LB.q10_1 H, LB.o11 H, LB.l11 H, LB.q10_2 H, LB.o12 H, LB.l12 H, LB.q10_3 H, LB.o13 H, LB.l13 H, LB.q10_4 H, LB.o14 H, LB.l14 H, LB.q10_5 H, LB.o15 H, LB.l15 H, LB.q16_1 H, LB.o17 H, LB.l17 H, LB.q16_2 H, LB.o18 H, LB.l18 H, LB.q16_3 H, LB.o19 H, LB.l19 H, LB.q16_4 H, LB.o20 H, LB.l20 H, -Int.reduceToNat, -Int32.reduceToNatClampNeg, il0, il1, il2, il3, il4, il5, il6, il7, il8, il9, il10, il11, il12, il13, il14, il15, il16, il17, il18, il19, il20, il21, il22, il23, il24, il25, il26, il27, il28, il29, il30, il31, il32, il35, il36, il38, il40, il42, il43, il44, il45, il46, il47, il48, il49, il50, il51, il52, il57, il59, il60, il63, il64, il75, il80, il95, il96, il97, il98, il99, il100, il120, il122, il123, il127, il128, il135, il167, il175, il225, il249, il250, il255, il256, il360, il370, il384, il600, il700, il740, il900, il940, il1024, il1600, il4800, il64000, il125000, il262143, il1000000000, iI_toInt, iI_add, iI_sub, iI_mul, iI_neg, iI_lt, iI_le, iI_eq, iI_n, iI_in, iI_div, iI_mod, iI_shm, iI_and1, iI_and7, iI_and63, iI_shr3, iI_shr6, rd_I, lgc, z_bit, ob, Option.some.injEq, exists_eq_left', exists_eq_left, true_and, and_true, forall_eq, forall_eq_apply_imp_iff, eq_self, true_or, or_true, bP_0, bP_0i, npP, bP_1i, bP_b, not_true_eq_false, not_false_eq_true, false_implies, true_implies, implies_true, Classical.not_not, and_self, cP, cP', ite_n, ite_T, ite_F, ite_t, ite_f, c_highAt H L h1 h2 n2, ew, eh, f1, f2]
  · have cc : candT s t z r how = tr3 t r (t (3 * r) + dxS how) (t (3 * r + 1) + dyS how) (if z (3 * r) = z (3 * r + 1) then 0 else t (3 * r + 2)) := by
      unfold candT sldT
      rw [if_neg c4]
      congr 1
      split
      · rename_i q; exact hsq q
      · rfl
    have dx := dx_bd how
    have dy := dy_bd how
    rw [ite_f (c := _ ∧ _) (fun q => c4 q.1), cc, ← c_land144 (post := post) (t := t) (x := t (3 * r) + dxS how) (y := t (3 * r + 1) + dyS how) (u := t (3 * r + 2)) H L hS hD n0 n1 n2 e h1 h2 ⟨by omega, by omega⟩ ⟨by omega, by omega⟩ ⟨by omega, by omega⟩]
    simp (disch := omega) only [LB.o0 H, LB.p2 H, LB.o1 H, LB.l1 H, LB.p3 H, LB.o2 H, LB.l2 H, LB.p4 H, LB.o3 H, LB.l3 H, LB.p6 H, LB.o4 H, LB.l4 H, LB.p7 H, LB.o5 H, LB.l5 H, LB.p8 H, LB.o6 H, LB.l6 H, LB.p9 H, LB.o7 H, LB.l7 H, LB.p10 H, LB.o8 H, LB.l8 H, LB.p12 H, LB.o9 H, LB.l9 H, LB.p14 H, LB.o10 H, LB.p15 H, LB.o16 H, LB.q10_1 H, LB.o11 H, LB.l11 H, LB.q10_2 H, LB.o12 H, LB.l12 H, LB.q10_3 H, LB.o13 H, LB.l13 H, LB.q10_4 H, LB.o14 H, LB.l14 H, LB.q10_5 H, LB.o15 H, LB.l15 H, LB.q16_1 H, LB.o17 H, LB.l17 H, LB.q16_2 H, LB.o18 H, LB.l18 H, LB.q16_3 H, LB.o19 H, LB.l19 H, LB.q16_4 H, LB.o20 H, LB.l20 H, -Int.reduceToNat, -Int32.reduceToNatClampNeg, il0, il1, il2, il3, il4, il5, il6, il7, il8, il9, il10, il11, il12, il13, il14, il15, il16, il17, il18, il19, il20, il21, il22, il23, il24, il25, il26, il27, il28, il29, il30, il31, il32, il35, il36, il38, il40, il42, il43, il44, il45, il46, il47, il48, il49, il50, il51, il52, il57, il59, il60, il63, il64, il75, il80, il95, il96, il97, il98, il99, il100, il120, il122, il123, il127, il128, il135, il167, il175, il225, il249, il250, il255, il256, il360, il370, il384, il600, il700, il740, il900, il940, il1024, il1600, il4800, il64000, il125000, il262143, il1000000000, iI_toInt, iI_add, iI_sub, iI_mul, iI_neg, iI_lt, iI_le, iI_eq, iI_n, iI_in, iI_div, iI_mod, iI_shm, iI_and1, iI_and7, iI_and63, iI_shr3, iI_shr6, rd_I, lgc, z_bit, ob, Option.some.injEq, exists_eq_left', exists_eq_left, true_and, and_true, forall_eq, forall_eq_apply_imp_iff, eq_self, true_or, or_true, bP_0, bP_0i, npP, bP_1i, bP_b, not_true_eq_false, not_false_eq_true, false_implies, true_implies, implies_true, Classical.not_not, and_self, cP, cP', ite_n, ite_T, ite_F, ite_t, ite_f, en2, en3, en4]
    unfold dxS dyS
    by_cases q1 : how = 1
    · subst q1
      simp (disch := omega) only [ite_T, ite_F, ite_t, ite_f, if_pos, if_neg, eq_self, ite_true, ite_false]
    · by_cases q3 : how = 3
      · subst q3
        simp (disch := omega) only [ite_T, ite_F, ite_t, ite_f, if_pos, if_neg, eq_self, ite_true, ite_false]
      · by_cases q2 : how = 2
        · subst q2
          simp (disch := omega) only [ite_T, ite_F, ite_t, ite_f, if_pos, if_neg, eq_self, ite_true, ite_false]
        · have q0 : how = 0 := by omega
          subst q0
          simp (disch := omega) only [ite_T, ite_F, ite_t, ite_f, if_pos, if_neg, eq_self, ite_true, ite_false]
end CLAND
