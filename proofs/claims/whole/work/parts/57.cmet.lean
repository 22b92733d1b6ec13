/-! WANTS: cells against sides -/
section CMET
variable {h : AH} {la tw cv : Nat} {s t z T : Int → Int} {post : AH → Int32 → Prop} {postJ : AH → Int64 → Prop} {a b c d r x y n sp sq w hh u hr how one : Int} {zz cov : Int64} {C : Nat → Int64}
theorem bes_cells (ha : in8 t z a) (hb : in8 t z b) (w1 : 1 ≤ wdT t z a) (w2 : 1 ≤ hiT t z a) (w3 : 1 ≤ wdT t z b) (w4 : 1 ≤ hiT t z b) (hno : ¬ overT t z a b) : besT t z a b ↔ ∃ x y, 0 ≤ x ∧ x < 8 ∧ 0 ≤ y ∧ y < 8 ∧ ((((y + 1 < 8 ∧ onT t z a x (y + 1)) ∨ (0 ≤ y - 1 ∧ onT t z a x (y - 1))) ∨ (0 ≤ x - 1 ∧ onT t z a (x - 1) y)) ∨ (x + 1 < 8 ∧ onT t z a (x + 1) y)) ∧ onT t z b x y := by
  obtain ⟨i1, i2, i3, i4⟩ := ha
  obtain ⟨j1, j2, j3, j4⟩ := hb
  unfold overT ovX ovY at hno
  unfold besT ovX ovY onT btw
  constructor
  · rintro ⟨k1, k2, k3⟩
    by_cases cx : t (3 * a) < t (3 * b) + wdT t z b ∧ t (3 * b) < t (3 * a) + wdT t z a
    · have cy : ¬ (t (3 * a + 1) < t (3 * b + 1) + hiT t z b ∧ t (3 * b + 1) < t (3 * a + 1) + hiT t z a) := fun q => hno ⟨cx, q⟩
      by_cases cd : t (3 * a + 1) + hiT t z a ≤ t (3 * b + 1)
      · rw [if_pos cd] at k2
        refine ⟨mxz (t (3 * a)) (t (3 * b)), t (3 * b + 1), ?_⟩
        unfold mxz
        split <;> omega
      · rw [if_neg cd, if_pos (by omega)] at k2
        refine ⟨mxz (t (3 * a)) (t (3 * b)), t (3 * b + 1) + hiT t z b - 1, ?_⟩
        unfold mxz
        split <;> omega
    · have cy : t (3 * a + 1) < t (3 * b + 1) + hiT t z b ∧ t (3 * b + 1) < t (3 * a + 1) + hiT t z a := by
        apply Classical.byContradiction
        intro q
        exact k3 ⟨fun p => absurd p cx, fun p => absurd p q⟩
      by_cases cd : t (3 * a) + wdT t z a ≤ t (3 * b)
      · rw [if_pos cd] at k1
        refine ⟨t (3 * b), mxz (t (3 * a + 1)) (t (3 * b + 1)), ?_⟩
        unfold mxz
        split <;> omega
      · rw [if_neg cd, if_pos (by omega)] at k1
        refine ⟨t (3 * b) + wdT t z b - 1, mxz (t (3 * a + 1)) (t (3 * b + 1)), ?_⟩
        unfold mxz
        split <;> omega
  · rintro ⟨x, y, -, -, -, -, q, l1, l2, l3, l4⟩
    rcases q with ((⟨-, p1, p2, p3, p4⟩ | ⟨-, p1, p2, p3, p4⟩) | ⟨-, p1, p2, p3, p4⟩) | ⟨-, p1, p2, p3, p4⟩
    · refine ⟨?_, ?_, fun q => ?_⟩
      · (repeat' split) <;> omega
      · (repeat' split) <;> omega
      · have := q.mp ⟨by omega, by omega⟩; omega
    · refine ⟨?_, ?_, fun q => ?_⟩
      · (repeat' split) <;> omega
      · (repeat' split) <;> omega
      · have := q.mp ⟨by omega, by omega⟩; omega
    · refine ⟨?_, ?_, fun q => ?_⟩
      · (repeat' split) <;> omega
      · (repeat' split) <;> omega
      · have := q.mpr ⟨by omega, by omega⟩; omega
    · refine ⟨?_, ?_, fun q => ?_⟩
      · (repeat' split) <;> omega
      · (repeat' split) <;> omega
      · have := q.mpr ⟨by omega, by omega⟩; omega
/-- beside, by masks -/
theorem ar_bes (ha : in8 t z a) (hb : in8 t z b) (w1 : 1 ≤ wdT t z a) (w2 : 1 ≤ hiT t z a) (w3 : 1 ≤ wdT t z b) (w4 : 1 ≤ hiT t z b) (hno : ¬ overT t z a b) {za zc : Int64} (hza : ∀ x y, 0 ≤ x → x < 8 → 0 ≤ y → y < 8 → (zb za (8 * y + x) ↔ onT t z a x y)) (hzb : ∀ x y, 0 ≤ x → x < 8 → 0 ≤ y → y < 8 → (zb zc (8 * y + x) ↔ onT t z b x y)) : (¬ arZ za &&& zc = 0) ↔ besT t z a b := by
  rw [bes_cells ha hb w1 w2 w3 w4 hno, z_and0']
  constructor
  · intro q
    apply Classical.byContradiction
    intro q2
    apply q
    rintro x y x1 x2 y1 y2 ⟨k1, k2⟩
    apply q2
    refine ⟨x, y, x1, x2, y1, y2, ?_, (hzb x y x1 x2 y1 y2).mp k2⟩
    rw [zb_ar za x1 x2 y1 y2] at k1
    rcases k1 with ((⟨k, k1⟩ | ⟨k, k1⟩) | ⟨k, k1⟩) | ⟨k, k1⟩
    · exact Or.inl (Or.inl (Or.inl ⟨k, (hza _ _ x1 x2 (by omega) k).mp k1⟩))
    · exact Or.inl (Or.inl (Or.inr ⟨k, (hza _ _ x1 x2 k (by omega)).mp k1⟩))
    · exact Or.inl (Or.inr ⟨k, (hza _ _ k (by omega) y1 y2).mp k1⟩)
    · exact Or.inr ⟨k, (hza _ _ (by omega) k y1 y2).mp k1⟩
  · rintro ⟨x, y, x1, x2, y1, y2, k1, k2⟩ q
    refine q x y x1 x2 y1 y2 ⟨?_, (hzb x y x1 x2 y1 y2).mpr k2⟩
    rw [zb_ar za x1 x2 y1 y2]
    rcases k1 with ((⟨k, k1⟩ | ⟨k, k1⟩) | ⟨k, k1⟩) | ⟨k, k1⟩
    · exact Or.inl (Or.inl (Or.inl ⟨k, (hza _ _ x1 x2 (by omega) k).mpr k1⟩))
    · exact Or.inl (Or.inl (Or.inr ⟨k, (hza _ _ x1 x2 k (by omega)).mpr k1⟩))
    · exact Or.inl (Or.inr ⟨k, (hza _ _ k (by omega) y1 y2).mpr k1⟩)
    · exact Or.inr ⟨k, (hza _ _ (by omega) k y1 y2).mpr k1⟩
/-- sun, by masks; the other rafts are those of U -/
theorem sh_sun {U : Int → Prop} (ha : in8 t z a) (hU : ∀ o, U o → in8 t z o ∧ 1 ≤ wdT t z o ∧ 1 ≤ hiT t z o ∧ ¬ overT t z a o) (w1 : 1 ≤ wdT t z a) (w2 : 1 ≤ hiT t z a) (d1 : 0 ≤ d) (d2 : d ≤ 3) {za zc : Int64} (hza : ∀ x y, 0 ≤ x → x < 8 → 0 ≤ y → y < 8 → (zb za (8 * y + x) ↔ onT t z a x y))
    (hzc : ∀ x y, 0 ≤ x → x < 8 → 0 ≤ y → y < 8 → ¬ onT t z a x y → (zb zc (8 * y + x) ↔ ∃ o, U o ∧ onT t z o x y)) : (shZ za d &&& (za ^^^ (-1 : Int64)) &&& zc = 0) ↔ ∀ o, U o → ¬ ∃ y, t (3 * a + 1) ≤ y ∧ y < t (3 * a + 1) + hiT t z a ∧ ∃ x, t (3 * a) ≤ x ∧ x < t (3 * a) + wdT t z a ∧ onT t z o (x + dxS d) (y + dyS d) := by
  rw [z_and0']
  obtain ⟨i1, i2, i3, i4⟩ := ha
  constructor
  · rintro q o ho ⟨y, y1, y2, x, x1, x2, k⟩
    obtain ⟨⟨j1, j2, j3, j4⟩, v1, v2, hno⟩ := hU o ho
    have k' := k
    obtain ⟨k1, k2, k3, k4⟩ := k'
    have hna : ¬ onT t z a (x + dxS d) (y + dyS d) := by
      rintro ⟨l1, l2, l3, l4⟩
      exact hno ⟨⟨by omega, by omega⟩, by omega, by omega⟩
    refine q (x + dxS d) (y + dyS d) (by omega) (by omega) (by omega) (by omega) ⟨?_, ?_⟩
    · rw [zb_and, zb_sh za (by omega) (by omega) (by omega) (by omega) d1 d2, zb_not _ (by omega) (by omega)]
      rw [hza _ _ (by omega) (by omega) (by omega) (by omega), show x + dxS d - dxS d = x by omega, show y + dyS d - dyS d = y by omega]
      exact ⟨⟨⟨by omega, by omega, by omega, by omega⟩, x1, x2, y1, y2⟩, fun q => hna ((hza _ _ (by omega) (by omega) (by omega) (by omega)).mp q)⟩
    · exact (hzc _ _ (by omega) (by omega) (by omega) (by omega) hna).mpr ⟨o, ho, k⟩
  · rintro q x y x1 x2 y1 y2 ⟨k1, k2⟩
    rw [zb_and, zb_sh za x1 x2 y1 y2 d1 d2, zb_not _ (by omega) (by omega), hza x y x1 x2 y1 y2] at k1
    obtain ⟨⟨⟨b1, b2, b3, b4⟩, k3⟩, k4⟩ := k1
    rw [hza _ _ b1 b2 b3 b4] at k3
    rw [hzc x y x1 x2 y1 y2 k4] at k2
    obtain ⟨o, ho, k5⟩ := k2
    obtain ⟨l1, l2, l3, l4⟩ := k3
    refine q o ho ⟨y - dyS d, l3, l4, x - dxS d, l1, l2, ?_⟩
    rw [show x - dxS d + dxS d = x by omega, show y - dyS d + dyS d = y by omega]
    exact k5
theorem so_CT (hG : GS s) (hL : WLi s) (e : EZ z s) (hV : VT s t z) (hC : ∀ r, 0 ≤ r → r < s 2 → ∀ x y, 0 ≤ x → x < 8 → 0 ≤ y → y < 8 → (zb (C r.toNat) (8 * y + x) ↔ onT t z r x y)) (hcov : ∀ x y, 0 ≤ x → x < 8 → 0 ≤ y → y < 8 → (zb cov (8 * y + x) ↔ ∃ o, 0 ≤ o ∧ o < s 2 ∧ onT t z o x y)) (h1 : 0 ≤ w) (h2 : w < s 5) : soC s C cov w ↔ soT s t z w := by
  obtain ⟨⟨hS, n0, n1, n2, n3, n4, n5, hK, hW⟩, hD, hPo, hNe⟩ := hG
  obtain ⟨⟨k0, k1⟩, ⟨k2, k3⟩, k4⟩ := hW w h1 h2
  obtain ⟨l2, l3, l4⟩ := hL w h1 h2
  have s2 := hS (175 + 5 * w + 2) (by omega) (by omega)
  have s3 := hS (175 + 5 * w + 3) (by omega) (by omega)
  have hZ := fun o o1 (o2 : o < s 2) => Z1.of e hD o1 o2 n2
  have hA := hV _ k2 k3
  have wa := wd_Z hA.1.P1 (hZ _ k2 k3)
  have ia := in8_of n0 n1 hA.2.1
  unfold soC soT
  by_cases q0 : s (175 + 5 * w) = 0
  · obtain ⟨k5, k6⟩ := k4 (by omega)
    rw [if_pos q0, if_pos q0]
    have hB := hV _ k5 k6
    have wb := wd_Z hB.1.P1 (hZ _ k5 k6)
    have eq := l4 (by omega)
    exact ar_bes ia (in8_of n0 n1 hB.2.1) wa.1.1 wa.2.1 wb.1.1 wb.2.1 (hA.2.2 _ k5 k6 eq) (hC _ k2 k3) (hC _ k5 k6)
  rw [if_neg q0, if_neg q0]
  by_cases q1 : s (175 + 5 * w) = 1
  · obtain ⟨k5, k6⟩ := k4 (by omega)
    rw [if_pos q1, if_pos q1]
    have hB := hV _ k5 k6
    have wb := wd_Z hB.1.P1 (hZ _ k5 k6)
    have eq := l4 (by omega)
    rw [← ar_bes ia (in8_of n0 n1 hB.2.1) wa.1.1 wa.2.1 wb.1.1 wb.2.1 (hA.2.2 _ k5 k6 eq) (hC _ k2 k3) (hC _ k5 k6)]
    exact Classical.not_not.symm
  rw [if_neg q1, if_neg q1]
  by_cases q2 : s (175 + 5 * w) = 2
  · rw [if_pos q2, if_pos q2, sh_sun (U := fun o => 0 ≤ o ∧ o < s 2 ∧ o ≠ s (175 + 5 * w + 1)) ia (fun o ho => ?_) wa.1.1 wa.2.1 s2.1 (l2 q2) (hC _ k2 k3) (fun x y x1 x2 y1 y2 hno => ?_)]
    · unfold sunT
      constructor
      · rintro q o o1 o2 ⟨o3, k⟩; exact q o ⟨o1, o2, o3⟩ k
      · rintro q o ⟨o1, o2, o3⟩ k; exact q o o1 o2 ⟨o3, k⟩
    · have hB := hV o ho.1 ho.2.1
      have wb := wd_Z hB.1.P1 (hZ _ ho.1 ho.2.1)
      exact ⟨in8_of n0 n1 hB.2.1, wb.1.1, wb.2.1, hA.2.2 o ho.1 ho.2.1 ho.2.2⟩
    · rw [hcov x y x1 x2 y1 y2]
      constructor
      · rintro ⟨o, o1, o2, k⟩
        refine ⟨o, ⟨o1, o2, fun q => ?_⟩, k⟩
        rw [q] at k
        exact hno k
      · rintro ⟨o, ⟨o1, o2, -⟩, k⟩; exact ⟨o, o1, o2, k⟩
  · rw [if_neg q2, if_neg q2]
    have l3' := l3 (by omega)
    exact hC _ k2 k3 _ _ s2.1 l3'.1 s3.1 l3'.2
theorem cb_cov (n2 : 0 ≤ s 2 ∧ s 2 ≤ 8) (hC : ∀ r, 0 ≤ r → r < s 2 → ∀ x y, 0 ≤ x → x < 8 → 0 ≤ y → y < 8 → (zb (C r.toNat) (8 * y + x) ↔ onT t z r x y)) (x1 : 0 ≤ x) (x2 : x < 8) (y1 : 0 ≤ y) (y2 : y < 8) : zb (cbZ C (-1) (s 2)) (8 * y + x) ↔ ∃ o, 0 ≤ o ∧ o < s 2 ∧ onT t z o x y := by
  unfold cbZ
  rw [zb_cb]
  constructor
  · rintro ⟨o, o1, o2, -, k⟩; exact ⟨o, o1, by omega, (hC o o1 (by omega) x y x1 x2 y1 y2).mp k⟩
  · rintro ⟨o, o1, o2, k⟩; exact ⟨o, o1, by omega, by omega, (hC o o1 o2 x y x1 x2 y1 y2).mpr k⟩
theorem c_metBits (H : LB h la) (L : LR h la s) (R : TR h tw la s t z) (hG : GS s) (hL : WLi s) (e : EZ z s) (hV : VT s t z) : wp_X8_metBits h tw post ↔ post h (foldI (bitsF (soT s t z)) (s 5).toNat 0 (iI 0)) := by
  have s2 := hG.1.1 2 (by omega) (by omega)
  have n2 := hG.1.2.2.2.1
  obtain ⟨B, hp, hsp, hcv⟩ := R
  unfold wp_X8_metBits
  simp (disch := omega) only [LB.o0 H, LB.p2 H, LB.o1 H, LB.l1 H, LB.p3 H, LB.o2 H, LB.l2 H, LB.p4 H, LB.o3 H, LB.l3 H, LB.p6 H, LB.o4 H, LB.l4 H, LB.p7 H, LB.o5 H, LB.l5 H, LB.p8 H, LB.o6 H, LB.l6 H, LB.p9 H, LB.o7 H, LB.l7 H, LB.p10 H, LB.o8 H, LB.l8 H, LB.p12 H, LB.o9 H, LB.l9 H, LB.p14 H, LB.o10 H, LB.p15 H, LB.o16 H, LB.q10_1 H, LB.o11 H, LB.l11 H, LB.q10_2 H, LB.o12 H, LB.l12 H, LB.q10_3 H, LB.o13 H, LB.l13 H, LB.q10_4 H, LB.o14 H, LB.l14 H, LB.q10_5 H, LB.o15 H, LB.l15 H, LB.q16_1 H, LB.o17 H, LB.l17 H, LB.q16_2 H, LB.o18 H, LB.l18 H, LB.q16_3 H, LB.o19 H, LB.l19 H, LB.q16_4 H, LB.o20 H, LB.l20 H, TB.o0 B, TB.p1 B, TB.o1 B, TB.l1 B, TB.p2 B, TB.o2 B, TB.l2 B, hp, -Int.reduceToNat, -Int32.reduceToNatClampNeg, il0, il1, il2, il3, il4, il5, il6, il7, il8, il9, il10, il11, il12, il13, il14, il15, il16, il17, il18, il19, il20, il21, il22, il23, il24, il25, il26, il27, il28, il29, il30, il31, il32, il35, il36, il38, il40, il42, il43, il44, il45, il46, il47, il48, il49, il50, il51, il52, il57, il59, il60, il63, il64, il75, il80, il95, il96, il97, il98, il99, il100, il120, il122, il123, il127, il128, il135, il167, il175, il225, il249, il250, il255, il256, il360, il370, il384, il600, il700, il740, il900, il940, il1024, il1600, il4800, il64000, il125000, il262143, il1000000000, iI_toInt, iI_add, iI_sub, iI_mul, iI_neg, iI_lt, iI_le, iI_eq, iI_n, iI_in, iI_div, iI_mod, iI_shm, iI_and1, iI_and7, iI_and63, iI_shr3, iI_shr6, rd_I, lgc, z_bit, ob, Option.some.injEq, exists_eq_left', exists_eq_left, true_and, and_true, fqI, fqJ, eq_self, true_or, or_true, bP_0, bP_0i, npP, bP_1i, bP_b, not_true_eq_false, not_false_eq_true, false_implies, true_implies, implies_true, Classical.not_not, and_self, c_coveredBut H L B hp ⟨s2.1, n2⟩, c_soBits H L hG hL (TB.o2 B) (TB.l2 B)]
  refine iff_of_eq (congrArg (post h) (foldI_c _ _ _ fun w b w1 w2 => ?_))
  unfold bitsF
  exact ite_c (so_CT hG hL e hV hcv (fun x y x1 x2 y1 y2 => cb_cov ⟨s2.1, n2⟩ hcv x1 x2 y1 y2) w1 (by have := hG.1.1 5 (by omega) (by omega); omega))
theorem c_met (H : LB h la) (L : LR h la s) (R : TR h tw la s t z) (hG : GS s) (hL : WLi s) (e : EZ z s) (hV : VT s t z) : wp_X8_met h tw post ↔ post h (iI (foldI (sumF (soT s t z) (fun w => s (175 + 5 * w + 4))) (s 5).toNat 0 0)) := by
  have n5 := hG.1.2.2.2.2.2.2.1
  have s5 := hG.1.1 5 (by omega) (by omega)
  have R' := R
  obtain ⟨B, hp, hsp, hcv⟩ := R
  unfold wp_X8_met
  simp (disch := omega) only [LB.o0 H, LB.p2 H, LB.o1 H, LB.l1 H, LB.p3 H, LB.o2 H, LB.l2 H, LB.p4 H, LB.o3 H, LB.l3 H, LB.p6 H, LB.o4 H, LB.l4 H, LB.p7 H, LB.o5 H, LB.l5 H, LB.p8 H, LB.o6 H, LB.l6 H, LB.p9 H, LB.o7 H, LB.l7 H, LB.p10 H, LB.o8 H, LB.l8 H, LB.p12 H, LB.o9 H, LB.l9 H, LB.p14 H, LB.o10 H, LB.p15 H, LB.o16 H, LB.q10_1 H, LB.o11 H, LB.l11 H, LB.q10_2 H, LB.o12 H, LB.l12 H, LB.q10_3 H, LB.o13 H, LB.l13 H, LB.q10_4 H, LB.o14 H, LB.l14 H, LB.q10_5 H, LB.o15 H, LB.l15 H, LB.q16_1 H, LB.o17 H, LB.l17 H, LB.q16_2 H, LB.o18 H, LB.l18 H, LB.q16_3 H, LB.o19 H, LB.l19 H, LB.q16_4 H, LB.o20 H, LB.l20 H, TB.o0 B, TB.p1 B, TB.o1 B, TB.l1 B, TB.p2 B, TB.o2 B, TB.l2 B, hp, -Int.reduceToNat, -Int32.reduceToNatClampNeg, il0, il1, il2, il3, il4, il5, il6, il7, il8, il9, il10, il11, il12, il13, il14, il15, il16, il17, il18, il19, il20, il21, il22, il23, il24, il25, il26, il27, il28, il29, il30, il31, il32, il35, il36, il38, il40, il42, il43, il44, il45, il46, il47, il48, il49, il50, il51, il52, il57, il59, il60, il63, il64, il75, il80, il95, il96, il97, il98, il99, il100, il120, il122, il123, il127, il128, il135, il167, il175, il225, il249, il250, il255, il256, il360, il370, il384, il600, il700, il740, il900, il940, il1024, il1600, il4800, il64000, il125000, il262143, il1000000000, iI_toInt, iI_add, iI_sub, iI_mul, iI_neg, iI_lt, iI_le, iI_eq, iI_n, iI_in, iI_div, iI_mod, iI_shm, iI_and1, iI_and7, iI_and63, iI_shr3, iI_shr6, rd_I, lgc, z_bit, ob, Option.some.injEq, exists_eq_left', exists_eq_left, true_and, and_true, fqI, fqJ, eq_self, true_or, or_true, bP_0, bP_0i, npP, bP_1i, bP_b, not_true_eq_false, not_false_eq_true, false_implies, true_implies, implies_true, Classical.not_not, and_self, c_metBits H L R' hG hL e hV, c_worthOf H L hG.1.1 n5]
  refine iff_of_eq (congrArg (fun v => post h (iI v)) (foldI_c _ _ _ fun w b w1 w2 => ?_))
  unfold sumF
  refine ite_c ?_
  rw [sb_bits w1 (by omega) _ (by omega)]
  exact ⟨fun q => q.2, fun q => ⟨by omega, q⟩⟩
theorem c_isSquareTaken (H : LB h la) (L : LR h la s) (R : TR h tw la s t z) (hG : GS s) (hV : VT s t z) (hq : s 6 + s 8 ≤ 8 ∧ s 7 + s 9 ≤ 8) : wp_X8_isSquareTaken h tw post ↔ post h (bP (busT s t z)) := by
  have s2 := hG.1.1 2 (by omega) (by omega)
  have s6 := hG.1.1 6 (by omega) (by omega)
  have s7 := hG.1.1 7 (by omega) (by omega)
  have n2 := hG.1.2.2.2.1
  obtain ⟨B, hp, hsp, hcv⟩ := R
  unfold wp_X8_isSquareTaken
  simp (disch := omega) only [LB.o0 H, LB.p2 H, LB.o1 H, LB.l1 H, LB.p3 H, LB.o2 H, LB.l2 H, LB.p4 H, LB.o3 H, LB.l3 H, LB.p6 H, LB.o4 H, LB.l4 H, LB.p7 H, LB.o5 H, LB.l5 H, LB.p8 H, LB.o6 H, LB.l6 H, LB.p9 H, LB.o7 H, LB.l7 H, LB.p10 H, LB.o8 H, LB.l8 H, LB.p12 H, LB.o9 H, LB.l9 H, LB.p14 H, LB.o10 H, LB.p15 H, LB.o16 H, LB.q10_1 H, LB.o11 H, LB.l11 H, LB.q10_2 H, LB.o12 H, LB.l12 H, LB.q10_3 H, LB.o13 H, LB.l13 H, LB.q10_4 H, LB.o14 H, LB.l14 H, LB.q10_5 H, LB.o15 H, LB.l15 H, LB.q16_1 H, LB.o17 H, LB.l17 H, LB.q16_2 H, LB.o18 H, LB.l18 H, LB.q16_3 H, LB.o19 H, LB.l19 H, LB.q16_4 H, LB.o20 H, LB.l20 H, TB.o0 B, TB.p1 B, TB.o1 B, TB.l1 B, TB.p2 B, TB.o2 B, TB.l2 B, hp, -Int.reduceToNat, -Int32.reduceToNatClampNeg, il0, il1, il2, il3, il4, il5, il6, il7, il8, il9, il10, il11, il12, il13, il14, il15, il16, il17, il18, il19, il20, il21, il22, il23, il24, il25, il26, il27, il28, il29, il30, il31, il32, il35, il36, il38, il40, il42, il43, il44, il45, il46, il47, il48, il49, il50, il51, il52, il57, il59, il60, il63, il64, il75, il80, il95, il96, il97, il98, il99, il100, il120, il122, il123, il127, il128, il135, il167, il175, il225, il249, il250, il255, il256, il360, il370, il384, il600, il700, il740, il900, il940, il1024, il1600, il4800, il64000, il125000, il262143, il1000000000, iI_toInt, iI_add, iI_sub, iI_mul, iI_neg, iI_lt, iI_le, iI_eq, iI_n, iI_in, iI_div, iI_mod, iI_shm, iI_and1, iI_and7, iI_and63, iI_shr3, iI_shr6, rd_I, lgc, z_bit, ob, Option.some.injEq, exists_eq_left', exists_eq_left, true_and, and_true, fqI, fqJ, eq_self, true_or, or_true, bP_0, bP_0i, npP, bP_1i, bP_b, not_true_eq_false, not_false_eq_true, false_implies, true_implies, implies_true, Classical.not_not, and_self, c_coveredBut H L B hp ⟨s2.1, n2⟩, cI post h, cI' post h]
  refine iff_of_eq (congrArg (post h) ?_)
  have key : cbZ (aJ h (tw + 2)) (-1) (s 2) &&& aJ h la 13 = 0 ↔ ¬ busT s t z := by
    rw [z_and0']
    unfold busT
    constructor
    · rintro q ⟨y, y1, y2, x, x1, x2, r, r1, r2, k⟩
      refine q (s 6 + x) (s 7 + y) (by omega) (by omega) (by omega) (by omega) ⟨?_, ?_⟩
      · rw [cb_cov ⟨s2.1, n2⟩ hcv (by omega) (by omega) (by omega) (by omega)]
        exact ⟨r, r1, r2, k⟩
      · rw [L.sq _ _ (by omega) (by omega) (by omega) (by omega)]
        omega
    · rintro q x y x1 x2 y1 y2 ⟨k1, k2⟩
      rw [cb_cov ⟨s2.1, n2⟩ hcv x1 x2 y1 y2] at k1
      rw [L.sq _ _ x1 x2 y1 y2] at k2
      obtain ⟨r, r1, r2, k⟩ := k1
      refine q ⟨y - s 7, by omega, by omega, x - s 6, by omega, by omega, r, r1, r2, ?_⟩
      rw [show s 6 + (x - s 6) = x by omega, show s 7 + (y - s 7) = y by omega]
      exact k
  by_cases c : busT s t z
  · rw [ite_f (fun q => key.mp q c), bP_t c]
  · rw [ite_t (key.mpr c), bP_f c]
end CMET
