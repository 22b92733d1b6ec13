/-! WANTS that are not so, by two RAFTS and by all -/
def soP (s t z : Int → Int) (a b w : Int) : Prop := if s (175 + 5 * w) = 0 then besT t z (s (175 + 5 * w + 1)) (s (175 + 5 * w + 2)) else if s (175 + 5 * w) = 1 then ¬ besT t z (s (175 + 5 * w + 1)) (s (175 + 5 * w + 2)) else if s (175 + 5 * w) = 2 then (∀ o, (0 ≤ o ∧ (o = a ∨ o = b) ∧ o < s 2 ∧ o ≠ s (175 + 5 * w + 1)) → ¬ ∃ y, t (3 * s (175 + 5 * w + 1) + 1) ≤ y ∧ y < t (3 * s (175 + 5 * w + 1) + 1) + hiT t z (s (175 + 5 * w + 1)) ∧ ∃ x, t (3 * s (175 + 5 * w + 1)) ≤ x ∧ x < t (3 * s (175 + 5 * w + 1)) + wdT t z (s (175 + 5 * w + 1)) ∧ onT t z o (x + dxS (s (175 + 5 * w + 2))) (y + dyS (s (175 + 5 * w + 2)))) else onT t z (s (175 + 5 * w + 1)) (s (175 + 5 * w + 2)) (s (175 + 5 * w + 3))
def P3 (Q : Int → Int → Prop) : Prop := Q 0 1 ∨ Q 0 2 ∨ Q 1 2
noncomputable def mvT (s t z : Int → Int) : Int := foldI (sumF (soT s t z) (fun w => s (175 + 5 * w + 4))) (s 5).toNat 0 0
noncomputable def wtot (s : Int → Int) : Int := wsm s (s 5).toNat (pw (s 5) - 1)
section NSO
variable {h h1 h2 h' h0 g0 g : AH} {qa0 qa ac la : Nat} {postV : AH → Prop} {post : AH → Int32 → Prop} {a b c d f i j k t' v w x y pl r hr how goal st u sp sq q p n : Int} {s t z T X F B : Int → Int} {S : BS} {za zc cov : Int64} {D : Int → Int → Prop} {C C' : Nat → Int64}
theorem P3_of {Q : Int → Int → Prop} (x0 : 0 ≤ x ∧ x < 3) (y0 : 0 ≤ y ∧ y < 3) (ne : x ≠ y) (h1 : x < y → Q x y) (h2 : y < x → Q y x) : P3 Q := by
  have c : (x = 0 ∧ y = 1) ∨ (x = 0 ∧ y = 2) ∨ (x = 1 ∧ y = 2) ∨ (x = 1 ∧ y = 0) ∨ (x = 2 ∧ y = 0) ∨ (x = 2 ∧ y = 1) := by omega
  unfold P3
  rcases c with ⟨rfl, rfl⟩ | ⟨rfl, rfl⟩ | ⟨rfl, rfl⟩ | ⟨rfl, rfl⟩ | ⟨rfl, rfl⟩ | ⟨rfl, rfl⟩
  · exact Or.inl (h1 (by omega))
  · exact Or.inr (Or.inl (h1 (by omega)))
  · exact Or.inr (Or.inr (h1 (by omega)))
  · exact Or.inl (h2 (by omega))
  · exact Or.inr (Or.inl (h2 (by omega)))
  · exact Or.inr (Or.inr (h2 (by omega)))
theorem so_CP (hG : GS s) (hL : WLi s) (e : EZ z s) (hV : VT s t z) (hC : ∀ r, 0 ≤ r → (r = a ∨ r = b) → r < s 2 → ∀ x y, 0 ≤ x → x < 8 → 0 ≤ y → y < 8 → (zb (C r.toNat) (8 * y + x) ↔ onT t z r x y)) (hcov : ∀ x y, 0 ≤ x → x < 8 → 0 ≤ y → y < 8 → (zb cov (8 * y + x) ↔ ∃ o, 0 ≤ o ∧ (o = a ∨ o = b) ∧ o < s 2 ∧ onT t z o x y)) (h1 : 0 ≤ w) (h2 : w < s 5) (hw : wth s a b w) : soC s C cov w ↔ soP s t z a b w := by
  obtain ⟨⟨hS, n0, n1, n2, n3, n4, n5, hK, hW⟩, hD, hPo, hNe⟩ := hG
  obtain ⟨⟨k0, k1⟩, ⟨k2, k3⟩, k4⟩ := hW w h1 h2
  obtain ⟨l2, l3, l4⟩ := hL w h1 h2
  have s2 := hS (175 + 5 * w + 2) (by omega) (by omega)
  have s3 := hS (175 + 5 * w + 3) (by omega) (by omega)
  have hZ := fun o o1 (o2 : o < s 2) => Z1.of e hD o1 o2 n2
  have hA := hV _ k2 k3
  have wa := wd_Z hA.1.P1 (hZ _ k2 k3)
  have ia := in8_of n0 n1 hA.2.1
  have hC1 := hC _ k2 hw.2 k3
  unfold soC soP
  by_cases q0 : s (175 + 5 * w) = 0
  · obtain ⟨k5, k6⟩ := k4 (by omega)
    rw [if_pos q0, if_pos q0]
    have hB := hV _ k5 k6
    have wb := wd_Z hB.1.P1 (hZ _ k5 k6)
    have eq := l4 (by omega)
    exact ar_bes ia (in8_of n0 n1 hB.2.1) wa.1.1 wa.2.1 wb.1.1 wb.2.1 (hA.2.2 _ k5 k6 eq) hC1 (hC _ k5 (by have := hw.1; omega) k6)
  rw [if_neg q0, if_neg q0]
  by_cases q1 : s (175 + 5 * w) = 1
  · obtain ⟨k5, k6⟩ := k4 (by omega)
    rw [if_pos q1, if_pos q1]
    have hB := hV _ k5 k6
    have wb := wd_Z hB.1.P1 (hZ _ k5 k6)
    have eq := l4 (by omega)
    rw [← ar_bes ia (in8_of n0 n1 hB.2.1) wa.1.1 wa.2.1 wb.1.1 wb.2.1 (hA.2.2 _ k5 k6 eq) hC1 (hC _ k5 (by have := hw.1; omega) k6)]
    exact Classical.not_not.symm
  rw [if_neg q1, if_neg q1]
  by_cases q2 : s (175 + 5 * w) = 2
  · rw [if_pos q2, if_pos q2, sh_sun (U := fun o => 0 ≤ o ∧ (o = a ∨ o = b) ∧ o < s 2 ∧ o ≠ s (175 + 5 * w + 1)) ia (fun o ho => ?_) wa.1.1 wa.2.1 s2.1 (l2 q2) hC1 (fun x y x1 x2 y1 y2 hno => ?_)]
    · have hB := hV o ho.1 ho.2.2.1
      have wb := wd_Z hB.1.P1 (hZ _ ho.1 ho.2.2.1)
      exact ⟨in8_of n0 n1 hB.2.1, wb.1.1, wb.2.1, hA.2.2 o ho.1 ho.2.2.1 ho.2.2.2⟩
    · rw [hcov x y x1 x2 y1 y2]
      constructor
      · rintro ⟨o, o1, o3, o2, k⟩
        refine ⟨o, ⟨o1, o3, o2, fun q => ?_⟩, k⟩
        rw [q] at k
        exact hno k
      · rintro ⟨o, ⟨o1, o3, o2, -⟩, k⟩; exact ⟨o, o1, o3, o2, k⟩
  · rw [if_neg q2, if_neg q2]
    have l3' := l3 (by omega)
    exact hC1 _ _ s2.1 l3'.1 s3.1 l3'.2
theorem so_P3 (hG : GS s) (hL : WLi s) (fw : few s) (h1 : 0 ≤ w) (h2 : w < s 5) : P3 (fun a b => wth s a b w ∧ ¬ soP s t z a b w) ↔ ¬ soT s t z w := by
  obtain ⟨⟨hS, n0, n1, n2, n3, n4, n5, hK, hW⟩, hD, hPo, hNe⟩ := hG
  obtain ⟨⟨k0, k1⟩, ⟨k2, k3⟩, k4⟩ := hW w h1 h2
  obtain ⟨l2, l3, l4⟩ := hL w h1 h2
  have f3 := fw.1
  have el : ∀ {Q : Int → Int → Prop} {R : Prop}, (∀ a b, Q a b → R) → P3 Q → R := fun k u => u.elim (k _ _) fun u => u.elim (k _ _) (k _ _)
  by_cases q0 : s (175 + 5 * w) = 0
  · obtain ⟨k5, k6⟩ := k4 (by omega)
    have e : ∀ a b, soP s t z a b w ↔ soT s t z w := fun a b => by unfold soP soT; rw [if_pos q0, if_pos q0]
    have ne := l4 (by omega)
    refine ⟨el fun a b u => (not_congr (e a b)).mp u.2, fun u => P3_of (x := s (175 + 5 * w + 1)) (y := s (175 + 5 * w + 2)) (by omega) (by omega) (fun q => ne q.symm) (fun _ => ⟨⟨by omega, by omega⟩, (not_congr (e _ _)).mpr u⟩) (fun _ => ⟨⟨by omega, by omega⟩, (not_congr (e _ _)).mpr u⟩)⟩
  by_cases q1 : s (175 + 5 * w) = 1
  · obtain ⟨k5, k6⟩ := k4 (by omega)
    have e : ∀ a b, soP s t z a b w ↔ soT s t z w := fun a b => by unfold soP soT; rw [if_neg q0, if_neg q0, if_pos q1, if_pos q1]
    have ne := l4 (by omega)
    refine ⟨el fun a b u => (not_congr (e a b)).mp u.2, fun u => P3_of (x := s (175 + 5 * w + 1)) (y := s (175 + 5 * w + 2)) (by omega) (by omega) (fun q => ne q.symm) (fun _ => ⟨⟨by omega, by omega⟩, (not_congr (e _ _)).mpr u⟩) (fun _ => ⟨⟨by omega, by omega⟩, (not_congr (e _ _)).mpr u⟩)⟩
  by_cases q2 : s (175 + 5 * w) = 2
  · have e : ∀ a b, soP s t z a b w ↔ _ := fun a b => by unfold soP; rw [if_neg q0, if_neg q1, if_pos q2]
    have e' : soT s t z w ↔ sunT s t z (s (175 + 5 * w + 1)) (s (175 + 5 * w + 2)) := by unfold soT; rw [if_neg q0, if_neg q1, if_pos q2]
    rw [e']
    refine ⟨el fun a b u q => u.2 ((e a b).mpr fun o ho k => q o ho.1 ho.2.2.1 ⟨ho.2.2.2, k⟩), fun u => Classical.byContradiction fun no => u fun o o0 o1 ⟨o2, k⟩ => no ?_⟩
    refine P3_of (x := s (175 + 5 * w + 1)) (y := o) (by omega) (by omega) (fun q => o2 q.symm) (fun _ => ⟨⟨by omega, by omega⟩, fun q => (e _ _).mp q o ⟨o0, Or.inr rfl, o1, o2⟩ k⟩) (fun _ => ⟨⟨by omega, by omega⟩, fun q => (e _ _).mp q o ⟨o0, Or.inl rfl, o1, o2⟩ k⟩)
  · have e : ∀ a b, soP s t z a b w ↔ soT s t z w := fun a b => by unfold soP soT; rw [if_neg q0, if_neg q0, if_neg q1, if_neg q1, if_neg q2, if_neg q2]
    refine ⟨el fun a b u => (not_congr (e a b)).mp u.2, fun u => ?_⟩
    by_cases c : s (175 + 5 * w + 1) = 0
    · exact P3_of (x := s (175 + 5 * w + 1)) (y := 1) (by omega) (by omega) (by omega) (fun _ => ⟨⟨by omega, by omega⟩, (not_congr (e _ _)).mpr u⟩) (fun _ => ⟨⟨by omega, by omega⟩, (not_congr (e _ _)).mpr u⟩)
    · exact P3_of (x := s (175 + 5 * w + 1)) (y := 0) (by omega) (by omega) (by omega) (fun _ => ⟨⟨by omega, by omega⟩, (not_congr (e _ _)).mpr u⟩) (fun _ => ⟨⟨by omega, by omega⟩, (not_congr (e _ _)).mpr u⟩)
/-- the CELLS under a number -/
theorem cov_nmr (gs : GS s) (fw : few s) (e : EZ z s) (L3 : BL3 h s) (W : LYS s T z) (r0 : 0 ≤ r) (r3 : r < 3) : (r < s 2 → ∀ x y, 0 ≤ x → x < 8 → 0 ≤ y → y < 8 → (zb (aJ h 83 (40 * r + nmr s T r).toNat) (8 * y + x) ↔ onT T z r x y)) ∧ (s 2 ≤ r → aJ h 83 (40 * r + nmr s T r).toNat = 0) := by
  refine ⟨fun c x y x0 x1 y0 y1 => ?_, fun c => ?_⟩
  · have hd := hd_of e r0 (show r < 8 by omega) (W r r0 c).1 (W r r0 c).2
    have we := wsp_enc e r0 (show r < 8 by omega) (W r r0 c).1
    have en := enc_nums (W r r0 c).1
    unfold nmr
    rw [ite_t c, ((L3 r r0 r3).1 c).cv _ hd.1.1 hd.1.2 hd.2, we.1, we.2]
    exact zb_spot (W r r0 c).1 (in8_of gs.1.2.1 gs.1.2.2.1 (W r r0 c).2) (Z1.of e gs.2.1 r0 c gs.1.2.2.2.1) x0 x1 y0 y1
  · unfold nmr
    rw [ite_f (by omega), Int.add_zero]
    exact ((L3 r r0 r3).2 c).2
theorem sb_ns (n5 : 0 ≤ s 5 ∧ s 5 ≤ 10) (w0 : 0 ≤ w) (w1 : w < 32) : sb (nsV s a b za zc) w ↔ w < s 5 ∧ wth s a b w ∧ ¬ soC s (cv2 a b za zc) (za ||| zc) w := by
  unfold nsV
  rw [sb_and, sb_not _ w0 w1, sb_bits w0 w1 _ (by omega), sb_bits w0 w1 _ (by omega), show (((s 5).toNat : Nat) : Int) = s 5 by omega]
  exact ⟨fun u => ⟨u.1.1, u.1.2, fun q => u.2 ⟨u.1.1, q⟩⟩, fun u => ⟨⟨u.1, u.2.1⟩, fun q => u.2.2 q.2⟩⟩
theorem ns_so (gs : GS s) (hL : WLi s) (fw : few s) (e : EZ z s) (L3 : BL3 h s) (V : VT s T z) (hab : 0 ≤ a ∧ a < b ∧ b < 3) (w0 : 0 ≤ w) (w1 : w < 32) : sb (nsV s a b (aJ h 83 (40 * a + nmr s T a).toNat) (aJ h 83 (40 * b + nmr s T b).toNat)) w ↔ w < s 5 ∧ wth s a b w ∧ ¬ soP s T z a b w := by
  have n5 := gs.1.2.2.2.2.2.2.1
  have s5 := gs.1.1 5 (by omega) (by omega)
  have W := LYS.vt V
  have A := cov_nmr gs fw e L3 W hab.1 (show a < 3 by omega)
  have B := cov_nmr gs fw e L3 W (show 0 ≤ b by omega) hab.2.2
  generalize aJ h 83 (40 * a + nmr s T a).toNat = za at A
  generalize aJ h 83 (40 * b + nmr s T b).toNat = zc at B
  rw [sb_ns (by omega) w0 w1]
  have ca : cv2 a b za zc a.toNat = za := by unfold cv2; rw [if_neg (by omega), if_pos rfl]
  have cb : cv2 a b za zc b.toNat = zc := by unfold cv2; rw [if_pos rfl]
  refine and_congr_right fun w2 => and_congr_right fun hw => ?_
  refine not_congr (so_CP gs hL e V (fun r r0 hr r2 x y x0 x1 y0 y1 => ?_) (fun x y x0 x1 y0 y1 => ?_) w0 w2 hw)
  · rcases hr with rfl | rfl
    · rw [ca]; exact A.1 r2 x y x0 x1 y0 y1
    · rw [cb]; exact B.1 r2 x y x0 x1 y0 y1
  · rw [zb_or]
    constructor
    · rintro (u | u)
      · by_cases c : a < s 2
        · exact ⟨a, hab.1, Or.inl rfl, c, (A.1 c x y x0 x1 y0 y1).mp u⟩
        · rw [A.2 (by omega)] at u; exact absurd u (zb_0 _)
      · by_cases c : b < s 2
        · exact ⟨b, by omega, Or.inr rfl, c, (B.1 c x y x0 x1 y0 y1).mp u⟩
        · rw [B.2 (by omega)] at u; exact absurd u (zb_0 _)
    · rintro ⟨o, o0, ho, o2, u⟩
      rcases ho with rfl | rfl
      · exact Or.inl ((A.1 o2 x y x0 x1 y0 y1).mpr u)
      · exact Or.inr ((B.1 o2 x y x0 x1 y0 y1).mpr u)
theorem NS3.vl (N : NS3 h s) (ha : 0 ≤ a ∧ a < b ∧ b < 3) (p0 : 0 ≤ p) (p1 : p < cntB s a) (q0 : 0 ≤ q) (q1 : q < cntB s b) (ca : cntB s a ≤ 40) (cb : cntB s b ≤ 40) : aI h 87 (((a + b - 1) * 40 + p) * 40 + q).toNat = nsV s a b (aJ h 83 (40 * a + p).toNat) (aJ h 83 (40 * b + q).toNat) := by
  have := N a b ha.1 ha.2.1 ha.2.2 p q p0 (by omega) q0 (by omega) ⟨p1, q1⟩
  rw [rd_I _ _ (by omega), this, iI_of]
theorem c_notTwo (S : CSh h) (s0 : 0 ≤ st) (s1 : st < 262144) (b0 : nIn st 0 < 40) (b1 : nIn st 1 < 40) (K : post h (aI h 87 (nIn st 0 * 40 + nIn st 1).toNat)) : wp_X0_notSoByTwo h 80 (iI st) post := by
  have m0 := nIn_b (st := st) (r := 0)
  have m1 := nIn_b (st := st) (r := 1)
  have l87 := S.l87
  unfold wp_X0_notSoByTwo
  refine ⟨S.o80, 87, S.p80_7, ?_⟩
  rw [show (0 : Int32) = iI 0 from rfl, show (1 : Int32) = iI 1 from rfl, c_numberIn s0 s1 (by omega) (by omega), c_numberIn s0 s1 (by omega) (by omega), show (40 : Int32) = iI 40 from rfl, iI_mul, iI_add]
  refine ⟨S.o87, iI_in (by omega) (by rw [l87]; omega) (by rw [l87]; omega), ?_⟩
  rw [iI_cl (by omega) (by omega)]
  exact K
theorem c_notIn (S : CSh h) (s0 : 0 ≤ st) (s1 : st < 262144) (b0 : nIn st 0 < 40) (b1 : nIn st 1 < 40) (b2 : nIn st 2 < 40) (K : post h ((aI h 87 (nIn st 0 * 40 + nIn st 1).toNat ||| aI h 87 ((40 + nIn st 0) * 40 + nIn st 2).toNat) ||| aI h 87 ((80 + nIn st 1) * 40 + nIn st 2).toNat)) : wp_X0_notSoIn h 80 (iI st) post := by
  have m0 := nIn_b (st := st) (r := 0)
  have m1 := nIn_b (st := st) (r := 1)
  have m2 := nIn_b (st := st) (r := 2)
  have l87 := S.l87
  unfold wp_X0_notSoIn
  rw [show (0 : Int32) = iI 0 from rfl, show (1 : Int32) = iI 1 from rfl, show (2 : Int32) = iI 2 from rfl, c_numberIn s0 s1 (by omega) (by omega)]
  refine ⟨S.o80, c_notTwo S s0 s1 b0 b1 ⟨S.o80, 87, S.p80_7, ?_⟩⟩
  rw [c_numberIn s0 s1 (by omega) (by omega), show (40 : Int32) = iI 40 from rfl, iI_add, iI_mul, iI_add]
  refine ⟨S.o87, iI_in (by omega) (by rw [l87]; omega) (by rw [l87]; omega), S.o80, 87, S.p80_7, ?_⟩
  rw [c_numberIn s0 s1 (by omega) (by omega), show (80 : Int32) = iI 80 from rfl, iI_add, iI_mul, iI_add]
  refine ⟨S.o87, iI_in (by omega) (by rw [l87]; omega) (by rw [l87]; omega), ?_⟩
  rw [iI_cl (by omega) (by omega), iI_cl (by omega) (by omega)]
  exact K
/-- the pairs weighed, TOWN by TOWN -/
def NSo (h : AH) (s z : Int → Int) : Prop := ∀ T, VT s T z → ∀ a b w, (0 ≤ a ∧ a < b ∧ b < 3) → 0 ≤ w → w < 32 → (sb (aI h 87 (((a + b - 1) * 40 + nmr s T a) * 40 + nmr s T b).toNat) w ↔ w < s 5 ∧ wth s a b w ∧ ¬ soP s T z a b w)
theorem NS3.so (N : NS3 h s) (gs : GS s) (hL : WLi s) (fw : few s) (e : EZ z s) (L3 : BL3 h s) : NSo h s z := fun T V a b w hab w0 w1 => by
  have W := LYS.vt V
  have ma := nmr_W gs fw e W hab.1 (show a < 3 by omega)
  have mb := nmr_W gs fw e W (show 0 ≤ b by omega) hab.2.2
  have ca := cntB_b (r := a) gs fw hab.1 (by omega)
  have cb := cntB_b (r := b) gs fw (by omega) hab.2.2
  rw [N.vl hab ma.1 ma.2 mb.1 mb.2 ca.2 cb.2]
  exact ns_so gs hL fw e L3 V hab w0 w1
theorem NSo.cg (N : NSo h s z) (e : aI h' 87 = aI h 87) : NSo h' s z := by
  unfold NSo at N ⊢
  rw [e]
  exact N
/-- WANTS that are not so in a TOWN, by its number -/
theorem c_notSo (S : CSh h) (gs : GS s) (hL : WLi s) (fw : few s) (e : EZ z s) (N : NSo h s z) (V : VT s T z) (K : ∀ X : Int32, (∀ w, 0 ≤ w → w < 32 → (sb X w ↔ w < s 5 ∧ ¬ soT s T z w)) → (∀ w, 0 ≤ w → w < 32 → sb (aI h 87 (nmr s T 0 * 40 + nmr s T 1).toNat) w → sb X w) → post h X) : wp_X0_notSoIn h 80 (iI (csT s T)) post := by
  have ok := csT_ok gs fw e V
  have o0 := ok.1.1
  have W := LYS.vt V
  have e0 := csT_nIn gs fw e V (r := 0) (by omega) (by omega)
  have e1 := csT_nIn gs fw e V (r := 1) (by omega) (by omega)
  have e2 := csT_nIn gs fw e V (r := 2) (by omega) (by omega)
  have m0 := nmr_c gs fw e W (r := 0) (by omega) (by omega)
  have m1 := nmr_c gs fw e W (r := 1) (by omega) (by omega)
  have m2 := nmr_c gs fw e W (r := 2) (by omega) (by omega)
  refine c_notIn S o0 (by omega) (by omega) (by omega) (by omega) ?_
  rw [e0, e1, e2]
  have h01 := fun w => N T V 0 1 w (by omega)
  have h02 := fun w => N T V 0 2 w (by omega)
  have h12 := fun w => N T V 1 2 w (by omega)
  rw [show ((0 + 1 - 1) * 40 + nmr s T 0) * 40 + nmr s T 1 = nmr s T 0 * 40 + nmr s T 1 by omega] at h01
  rw [show ((0 + 2 - 1) * 40 + nmr s T 0) * 40 + nmr s T 2 = (40 + nmr s T 0) * 40 + nmr s T 2 by omega] at h02
  rw [show ((1 + 2 - 1) * 40 + nmr s T 1) * 40 + nmr s T 2 = (80 + nmr s T 1) * 40 + nmr s T 2 by omega] at h12
  refine K _ (fun w w0 w1 => ?_) (fun w w0 w1 q => by rw [sb_or, sb_or]; exact Or.inl (Or.inl q))
  rw [sb_or, sb_or, h01 w w0 w1, h02 w w0 w1, h12 w w0 w1]
  refine ⟨fun u => ?_, fun u => ?_⟩
  · have w5 : w < s 5 := by rcases u with (u | u) | u <;> exact u.1
    refine ⟨w5, (so_P3 gs hL fw w0 w5).mp ?_⟩
    rcases u with (u | u) | u
    · exact Or.inl u.2
    · exact Or.inr (Or.inl u.2)
    · exact Or.inr (Or.inr u.2)
  · rcases (so_P3 gs hL fw w0 u.1).mpr u.2 with v | v | v
    · exact Or.inl (Or.inl ⟨u.1, v⟩)
    · exact Or.inl (Or.inr ⟨u.1, v⟩)
    · exact Or.inr ⟨u.1, v⟩
/-- small numbers by their bits -/
theorem sb_num (Y : Int32) (n0 : 0 ≤ n) (n1 : n ≤ 10) (hY : ∀ w, 0 ≤ w → w < 32 → sb Y w → w < n) : ∃ N, Y = iI N ∧ 0 ≤ N ∧ N < pw n ∧ ∀ w, 0 ≤ w → w < 32 → (bN N w ↔ sb Y w) := by
  have pb := pw_b n0 n1
  have pn := pw_nat n0
  have lt : Y.toBitVec.toNat < 2 ^ n.toNat := Nat.lt_pow_two_of_testBit _ fun i hi => by
    by_cases c : i < 32
    · refine Bool.eq_false_iff.mpr fun q => ?_
      have := hY i (by omega) (by omega) (by unfold sb; rw [Int.toNat_natCast]; exact q)
      omega
    · exact BitVec.getLsbD_of_ge Y.toBitVec i (by omega)
  refine ⟨(Y.toBitVec.toNat : Int), ?_, by omega, by omega, fun w w0 w1 => Iff.rfl⟩
  apply Int32.toBitVec_inj.mp
  rw [iI_bv (by omega) (by omega), Int.toNat_natCast, BitVec.ofNat_toNat]
  exact (BitVec.setWidth_eq _).symm
theorem sb_all (n0 : 0 ≤ n) (n1 : n ≤ 10) (w0 : 0 ≤ w) (w1 : w < 32) : sb (iI (pw n - 1)) w ↔ w < n := by
  have pb := pw_b n0 n1
  have pn := pw_nat n0
  rw [show pw n - 1 = ((2 ^ n.toNat - 1 : Nat) : Int) by omega, sb_tb _ (by omega) w0 w1, Nat.testBit_two_pow_sub_one]
  simp only [decide_eq_true_eq]
  omega
theorem sum_num (gs : GS s) (hs : ∀ X, 0 ≤ X → X < pw (s 5) → rd h 77 X = wsm s (s 5).toNat X) {X : Int32} {P : Int → Prop} (hX : ∀ w, 0 ≤ w → w < s 5 → (¬ sb X w ↔ P w)) : ∃ N, iI (pw (s 5) - 1) &&& (X ^^^ (-1 : Int32)) = iI N ∧ 0 ≤ N ∧ N < pw (s 5) ∧ rd h 77 N = foldI (sumF P (fun w => s (175 + 5 * w + 4))) (s 5).toNat 0 0 := by
  have n5 := gs.1.2.2.2.2.2.2.1
  have s5 := gs.1.1 5 (by omega) (by omega)
  have bit : ∀ w, 0 ≤ w → w < 32 → (sb (iI (pw (s 5) - 1) &&& (X ^^^ (-1 : Int32))) w ↔ w < s 5 ∧ ¬ sb X w) := fun w w0 w1 => by rw [sb_and, sb_all s5.1 n5 w0 w1, sb_not _ w0 w1]
  obtain ⟨N, e1, e2, e3, e4⟩ := sb_num _ s5.1 n5 fun w w0 w1 q => ((bit w w0 w1).mp q).1
  refine ⟨N, e1, e2, e3, ?_⟩
  rw [hs N e2 e3]
  refine wsm_c _ fun w w0 w1 => ?_
  rw [e4 w w0 (by omega), bit w w0 (by omega), ← hX w w0 (by omega)]
  exact ⟨fun u => u.2, fun u => ⟨by omega, u⟩⟩
theorem mv_b (gs : GS s) : (0 ≤ mvT s t z ∧ mvT s t z ≤ 990) ∧ mvT s t z ≤ wtot s ∧ wtot s ≤ 990 := by
  have n5 := gs.1.2.2.2.2.2.2.1
  have s5 := gs.1.1 5 (by omega) (by omega)
  have hw : ∀ w, 0 ≤ w → w < s 5 → 0 ≤ s (175 + 5 * w + 4) ∧ s (175 + 5 * w + 4) ≤ 99 := fun w w0 w1 => gs.1.1 _ (by omega) (by omega)
  have a := sm_bd (P := soT s t z) hw (s 5).toNat (by omega)
  have b := sm_bd (P := bN (pw (s 5) - 1)) hw (s 5).toNat (by omega)
  have c := sm_le (P := soT s t z) (Q := bN (pw (s 5) - 1)) hw (fun w w0 w1 _ => by
    have pn := pw_nat s5.1
    have pb := pw_b s5.1 n5
    unfold bN
    rw [show (pw (s 5) - 1).toNat = 2 ^ (s 5).toNat - 1 by omega, Nat.testBit_two_pow_sub_one]
    simp only [decide_eq_true_eq]
    omega) (s 5).toNat (by omega)
  unfold mvT wtot wsm
  omega
end NSO
