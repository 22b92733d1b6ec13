/-! all() in the class -/
section CA2
variable {h h1 h2 h' h0 g0 g : AH} {i : Nat} {qa0 qa ac la fr tw : Nat} {postV : AH → Prop} {post : AH → Int32 → Prop} {a b c c' d f j k v w x y pl r hr how gl goal st u p q l o dn ls best most : Int} {s t t' t0 z T T' : Int → Int} {S R0 : BS} {zr : Int64}
theorem c_allLoop (hl : la = 5 ∨ la = 32) (gs : GS s) (hL : WLi s) (fw : few s) (e : EZ z s) (v9 : ∀ k, 0 ≤ k → k < s 4 → s (135 + 4 * k + 2) ≤ 9) (ru : RUq s) (A : ALs h0 h la s z) (B : AB s t0 z (rd h 74 11) (rd h 74 12) 0)
    (K : ∀ h', ALs h0 h' la s z → AB s t0 z (rd h' 74 11) (rd h' 74 12) (4096 * cntB s 0) → ob h' la 1 ∧ (ob h' 74 6 ∧ ∀ hv : AH, hv = hI h' 74 13 (mn (aI h' la 5) (3 : Int32)) → ∃ n, wl_X6_mostMetAnywhere_177 post n hv 74 (iI 0))) : ∃ n, wl_X6_mostMetAnywhere_50 post n h 74 la (iI (pw (s 5) - 1)) (iI 0) := by
  have c0 := cntB_b (r := 0) gs fw (by omega) (by omega)
  have c1 := cntB_b (r := 1) gs fw (by omega) (by omega)
  have n5 := gs.1.2.2.2.2.2.2.1
  have s5 := gs.1.1 5 (by omega) (by omega)
  have pb := pw_b s5.1 n5
  have hw : ∀ w, 0 ≤ w → w < s 5 → 0 ≤ s (175 + 5 * w + 4) ∧ s (175 + 5 * w + 4) ≤ 99 := fun w w0 w1 => gs.1.1 _ (by omega) (by omega)
  have i81 : ∀ {b : AH} {r : Int}, ALs h0 b la s z → 0 ≤ r → r < 3 → aI b 81 (iI r).toNatClampNeg = iI (cntB s r) := fun {b r} A r0 r1 => by rw [← A.L3.cnt r0 r1, iI_cl r0 (by omega), rd_I _ _ r0]
  refine lf_for (W := fun k (b : AH) p => wl_X6_mostMetAnywhere_50 post k b 74 la (iI (pw (s 5) - 1)) (iI p)) (lo := 0) (hi := cntB s 0) (fun p b => ALs h0 b la s z ∧ AB s t0 z (rd b 74 11) (rd b 74 12) (4096 * p)) c0.1 (fun k b p p0 p1 J nx => ?_) (fun k b J => ?_) h ⟨A, by rw [Int.mul_zero]; exact B⟩
  · obtain ⟨Ab, Bb⟩ := J
    have Sb := Ab.S
    have hp' : 0 ≤ p ∧ p < 40 := by omega
    show wb_X6_mostMetAnywhere_50 (wl_X6_mostMetAnywhere_50 post k) b 74 la (iI (pw (s 5) - 1)) (iI p) post
    unfold wb_X6_mostMetAnywhere_50
    rw [show (0 : Int32) = iI 0 from rfl, show (1 : Int32) = iI 1 from rfl]
    refine ⟨Sb.o74, 80, Sb.p74_0, Sb.o80, 81, Sb.p80_1, Sb.o81, iI_in (by omega) (by rw [Sb.l81]; omega) (by rw [Sb.l81]; omega), fun u => ?_, fun _ => ⟨Sb.o74, 80, Sb.p74_0, Sb.o80, ?_⟩⟩
    · rw [i81 Ab (by omega) (by omega), iI_le (by omega) (by omega) (by omega) (by omega)] at u
      omega
    rw [show ((12 : Int32) &&& 31) = iI 12 from rfl, (p12_I hp' (q := 0) (by omega)).1]
    have n0 := nI3 hp' (q := 0) (by omega) (l := 0) (by omega)
    rw [show 4096 * p + 64 * 0 + 0 = 4096 * p by omega] at n0
    refine c_roomFor Sb (by omega) (by omega) (fun o o0 o3 => ?_) (by omega) (by omega) (by omega) (by omega) fun v hv => ?_
    · have cc : o = 0 ∨ o = 1 ∨ o = 2 := by omega
      rcases cc with rfl | rfl | rfl <;> omega
    have bit : ∀ q, 0 ≤ q → q < 64 → (zb v q ↔ zb (aJ b 86 (40 + p).toNat) q) := fun q q0 q1 => by
      rw [hv q q0 q1]
      refine ⟨fun u => ?_, fun u o o0 o1 o2 => ?_⟩
      · have u0 := u 0 (by omega) (by omega) (by omega)
        rw [n0.1, show (3 * 0 + 1) * 40 + p = 40 + p by omega] at u0
        exact u0
      · rw [show o = 0 by omega, n0.1, show (3 * 0 + 1) * 40 + p = 40 + p by omega]; exact u
    refine lf_for (W := fun k' (g : AH) q => wl_X6_mostMetAnywhere_81 (wl_X6_mostMetAnywhere_50 post k) post k' g 74 la (iI (pw (s 5) - 1)) (iI p) v (iI q)) (lo := 0) (hi := cntB s 1) (fun q g => ALs h0 g la s z ∧ aJ g 86 = aJ b 86 ∧ AB s t0 z (rd g 74 11) (rd g 74 12) (4096 * p + 64 * q)) c1.1 (fun k' g q q0 q1 J nx' => ?_) (fun k' g J => ?_) b ⟨Ab, rfl, by rw [show 4096 * p + 64 * 0 = 4096 * p by omega]; exact Bb⟩
    · obtain ⟨Ag, e86, Bg⟩ := J
      have Sg := Ag.S
      have hq' : 0 ≤ q ∧ q < 40 := by omega
      have iv : ∀ {v : Int32}, v = iI q + 1 → v = iI (q + 1) := fun {v} e => by rw [e, show (1 : Int32) = iI 1 from rfl, iI_add]
      have dig : ∀ T, VAl s t0 z T → 4096 * p + 64 * q ≤ csT s T → csT s T < 4096 * p + 64 * q + 64 → nmr s T 0 = p ∧ nmr s T 1 = q := fun T V u1 u2 => by
        obtain ⟨d1, d2, d3, d4⟩ := csT_dig gs fw e (LYS.vt V.1)
        have c2 := cntB_b (r := 2) gs fw (by omega) (by omega)
        omega
      have b11 : -1 ≤ rd g 74 11 ∧ rd g 74 11 ≤ 990 := by
        rcases Bg with ⟨a1, a2, a3⟩ | ⟨T, a1, a2, a3, a4, a5⟩
        · omega
        · have := mv_b (t := T) (z := z) gs; omega
      have fin : ∀ {g' : AH}, ALs h0 g' la s z → aJ g' 86 = aJ b 86 → AB s t0 z (rd g' 74 11) (rd g' 74 12) (4096 * p + 64 * q + 64) → wb_X6_mostMetAnywhere_151 (wl_X6_mostMetAnywhere_50 post k) (wl_X6_mostMetAnywhere_81 (wl_X6_mostMetAnywhere_50 post k) post k') g' 74 la (iI (pw (s 5) - 1)) (iI p) v (iI q) post := fun {g'} A' e' B' v1 e1 => by
        rw [iv e1]
        refine nx' g' ⟨A', e', ?_⟩
        rw [show 4096 * p + 64 * (q + 1) = 4096 * p + 64 * q + 64 by omega]
        exact B'
      show wb_X6_mostMetAnywhere_81 (wl_X6_mostMetAnywhere_50 post k) (wl_X6_mostMetAnywhere_81 (wl_X6_mostMetAnywhere_50 post k) post k') g 74 la (iI (pw (s 5) - 1)) (iI p) v (iI q) post
      unfold wb_X6_mostMetAnywhere_81
      refine ⟨Sg.o74, 80, Sg.p74_0, Sg.o80, 81, Sg.p80_1, Sg.o81, iI_in (a := 1) (by omega) (by rw [Sg.l81]; omega) (by rw [Sg.l81]; omega), fun u => ?_, fun _ v4 e4 => ?_⟩
      · rw [show (1 : Int32) = iI 1 from rfl, i81 Ag (by omega) (by omega), iI_le (by omega) (by omega) (by omega) (by omega)] at u
        omega
      have pp := p12_I hp' hq'
      rw [show ((12 : Int32) &&& 31) = iI 12 from rfl, show ((6 : Int32) &&& 31) = iI 6 from rfl, pp.1, pp.2] at e4
      rw [e4, show (0 : Int32) = iI 0 from rfl, lgc, z_bit v q0 (by omega), bit q q0 (by omega), ← e86]
      have n3 := nI3 hp' hq' (l := 0) (by omega)
      rw [Int.add_zero] at n3
      refine ⟨fun nb => fin Ag e86 (AB_low Bg gs (by omega) fun T V u1 u2 => ?_), fun yb => ⟨Sg.o74, 77, Sg.p74_7, Sg.o74, 80, Sg.p74_0, Sg.o80, ?_⟩⟩
      · obtain ⟨k0, k1⟩ := dig T V u1 u2
        have a01 := tg_iff gs fw e v9 ru Ag.L3 Ag.TT (LYS.vt V.1) (a := 0) (b := 1) (by omega)
        rw [k0, k1, show (3 * 0 + 1) * 40 + p = 40 + p by omega] at a01
        exact absurd (a01.mpr fun u => VAl_to3 V (by omega) (by omega) u) nb
      rw [Classical.not_not] at yb
      refine c_notTwo Sg (by omega) (by omega) (by omega) (by omega) ?_
      rw [n3.1, n3.2.1]
      obtain ⟨n, n1, n2, n3', n4⟩ := sum_num (X := aI g 87 (p * 40 + q).toNat) (P := fun w => ¬ sb (aI g 87 (p * 40 + q).toNat) w) gs Ag.sm fun w w0 w1 => Iff.rfl
      rw [n1]
      have i11 : aI g 74 11 = iI (rd g 74 11) := rd_I g 74 (i := 11) (by omega)
      have nb := sm_bd (P := fun w => ¬ sb (aI g 87 (p * 40 + q).toNat) w) hw (s 5).toNat (by omega)
      rw [← n4] at nb
      refine ⟨Sg.o77, iI_in n2 (by rw [Sg.l77]; omega) (by rw [Sg.l77]; omega), Sg.o74, ?_⟩
      rw [iI_cl n2 (by omega), rd_I _ _ n2, i11, iI_le (by omega) (by omega) (by omega) (by omega)]
      refine ⟨fun le => fin Ag e86 (AB_low Bg gs (by omega) fun T V u1 u2 => ?_), fun _ => ⟨Sg.o74, c_tryLast Ag hl gs hL fw e v9 ru ⟨p0, p1⟩ ⟨q0, q1⟩ yb Bg fun h' A' B' => fin A' ?_ B'⟩⟩
      · obtain ⟨k0, k1⟩ := dig T V u1 u2
        have two := fun w => Ag.N T V.1 0 1 w (by omega)
        rw [k0, k1, show ((0 + 1 - 1) * 40 + p) * 40 + q = p * 40 + q by omega] at two
        have := sm_le (P := soT s T z) (Q := fun w => ¬ sb (aI g 87 (p * 40 + q).toNat) w) hw (fun w w0 w1 so n => by
          have t := (two w w0 (by omega)).mp n
          exact (so_P3 gs hL fw w0 w1).mp (Or.inl t.2) so) (s 5).toNat (by omega)
        have : mvT s T z ≤ rd g 77 n := by rw [n4]; exact this
        omega
      · rw [A'.F.2.2.2.2.2.1 86 List.not_mem_nil, ← Ag.F.2.2.2.2.2.1 86 List.not_mem_nil]
        exact e86
    · obtain ⟨Ag, e86, Bg⟩ := J
      have Sg := Ag.S
      have iv : ∀ {v : Int32}, v = iI p + 1 → v = iI (p + 1) := fun {v} e => by rw [e, show (1 : Int32) = iI 1 from rfl, iI_add]
      show wb_X6_mostMetAnywhere_81 (wl_X6_mostMetAnywhere_50 post k) (wl_X6_mostMetAnywhere_81 (wl_X6_mostMetAnywhere_50 post k) post k') g 74 la (iI (pw (s 5) - 1)) (iI p) v (iI (cntB s 1)) post
      unfold wb_X6_mostMetAnywhere_81
      refine ⟨Sg.o74, 80, Sg.p74_0, Sg.o80, 81, Sg.p80_1, Sg.o81, iI_in (a := 1) (by omega) (by rw [Sg.l81]; omega) (by rw [Sg.l81]; omega), fun _ v1 e1 => ?_, fun u => absurd ?_ u⟩
      · rw [iv e1]
        refine nx g ⟨Ag, ?_⟩
        refine AB_low Bg gs (by omega) fun T V u1 u2 => ?_
        obtain ⟨d1, d2, d3, d4⟩ := csT_dig gs fw e (LYS.vt V.1)
        have c2 := cntB_b (r := 2) gs fw (by omega) (by omega)
        omega
      · rw [show (1 : Int32) = iI 1 from rfl, i81 Ag (by omega) (by omega), iI_le (by omega) (by omega) (by omega) (by omega)]
        exact Int.le_refl _
  · obtain ⟨Ab, Bb⟩ := J
    have Sb := Ab.S
    show wb_X6_mostMetAnywhere_50 (wl_X6_mostMetAnywhere_50 post k) b 74 la (iI (pw (s 5) - 1)) (iI (cntB s 0)) post
    unfold wb_X6_mostMetAnywhere_50
    refine ⟨Sb.o74, 80, Sb.p74_0, Sb.o80, 81, Sb.p80_1, Sb.o81, iI_in (a := 0) (by omega) (by rw [Sb.l81]; omega) (by rw [Sb.l81]; omega), fun _ => K b Ab Bb, fun u => absurd ?_ u⟩
    rw [show (0 : Int32) = iI 0 from rfl, i81 Ab (by omega) (by omega), iI_le (by omega) (by omega) (by omega) (by omega)]
    exact Int.le_refl _
/-- what all() leaves in the class -/
theorem c_all (S : CSh h) (H : LB h la) (L : LR h la s) (hl : la = 5 ∨ la = 32) (gs : GS s) (hL : WLi s) (fw : few s) (e : EZ z s) (v9 : ∀ k, 0 ≤ k → k < s 4 → s (135 + 4 * k + 2) ≤ 9) (ru : RUq s) (ex : ∃ T, VAl s t0 z T)
    (K : ∀ h' T, bestA s t0 z T → Gr [74, 77, 79, 81, 82, 84, 87] [83, 86, 88] [(80, 0)] h h' → aN h' = aN h → aS h' = aS h → (∀ j, j ≠ 11 → j ≠ 12 → j ≠ 13 → j ≠ 14 → rd h' 74 j = rd h 74 j) → rd h' 74 13 = s 2 → rd h' 74 14 = (lfT s T z).toInt → (∀ r, 0 ≤ r → r < s 2 → rd h' 79 r = enc T r) → post h' (iI (mvT s T z))) : wp_X6_mostMetAnywhere h 74 la post := by
  have b5 := gs.1.1 5 (by omega) (by omega)
  have b2 := gs.1.1 2 (by omega) (by omega)
  have f3 := fw.1
  have n5 := gs.1.2.2.2.2.2.2.1
  have pb := pw_b b5.1 n5
  have hw : ∀ w, 0 ≤ w → w < s 5 → 0 ≤ s (175 + 5 * w + 4) ∧ s (175 + 5 * w + 4) ≤ 99 := fun w w0 w1 => gs.1.1 _ (by omega) (by omega)
  unfold wp_X6_mostMetAnywhere
  refine ⟨S.o74, 80, S.p74_0, S.o80, c_list S H L hl gs fw v9 fun g0 g1 eg F1 B1 T1 => ?_⟩
  have G0 : Gr [] [] [(80, 0)] h g0 := by rw [eg]; exact gr_hP1 (k := 0) (by decide)
  have Sg0 := S.gr G0
  have S1 := Sg0.gr F1.gr
  have H0 : LB g0 la := H.gr G0 (by omega)
  have L0 : LR g0 la s := L.grw H G0 (fun j _ => List.not_mem_nil) (fun j _ => List.not_mem_nil)
  have H1 : LB g1 la := H0.gr F1.gr (by omega)
  have L1 : LR g1 la s := L0.fr F1 (fun j hj => by simp; omega) (fun j hj => by simp; omega)
  have p1 : aP g1 80 0 = some la := by rw [F1.aPe, eg, aP_hP, if_pos rfl]
  refine ⟨S1.o74, 80, S1.p74_0, S1.o80, c_weigh S1 H1 L1 hl p1 gs hL fw B1 fun g5 F5 N5 => ?_⟩
  have S5 := S1.gr F5.gr
  have H5 : LB g5 la := H1.gr F5.gr (by omega)
  have L5 : LR g5 la s := L1.fr F5 (fun j hj => by simp; omega) (fun j hj => by simp; omega)
  have B5 : BL3 g5 s := B1.cg (F5.row (by simp)) (F5.row (by simp)) (F5.2.2.2.2.2.1 83 (by simp)) (F5.row (by simp))
  have T5 : TG3 g5 s := T1.cg (F5.row (by simp)) (F5.2.2.2.2.2.1 83 (by simp)) (F5.2.2.2.2.2.1 86 (by simp))
  refine ⟨H5.o0, la + 16, H5.p15, S5.o74, 77, S5.p74_7, H5.o16, c_sumUp S5 H5 L5 hl ⟨b5.1, n5⟩ hw fun g6 F6 hs6 => ?_⟩
  have S6 := S5.gr F6.gr
  have H6 : LB g6 la := H5.gr F6.gr (by omega)
  have L6 : LR g6 la s := L5.fr F6 (fun j hj => by simp; omega) (fun j hj => by simp)
  have N6 : NSo g6 s z := (N5.so gs hL fw e B5).cg (F6.2.2.2.2.1 87 (by simp))
  refine ⟨H6.o0, la + 16, H6.p15, H6.o16, fun v ev => ⟨S6.o74, fun g7 w7 => ?_⟩⟩
  have ev : v = iI (pw (s 5) - 1) := by
    have w0 := L6.w0
    rw [ev, show aI g6 (la + 16) 0 = iI (s 5) by rw [← w0]; exact rd_I g6 (la + 16) (i := 0) (Int.le_refl _), show (31 : Int32) = iI 31 from rfl, iI_shm b5.1 (by omega), show (1 : Int32) = iI 1 from rfl, sh1_I b5.1 (by omega), iI_sub]
  rw [ev]
  obtain ⟨f7, r7⟩ := wI (i := 11) (v := -1) (by omega) (by omega) (by omega) w7
  have A6 : ALs g6 g6 la s z := ⟨S6, H6, L6, (Fr.refl g6).mono (by simp) (by simp) (by simp), B5.cg (F6.row (by simp)) (F6.row (by simp)) (F6.2.2.2.2.2.1 83 (by simp)) (F6.row (by simp)), T5.cg (F6.row (by simp)) (F6.2.2.2.2.2.1 83 (by simp)) (F6.2.2.2.2.2.1 86 (by simp)), N6, hs6, fun _ _ _ => rfl⟩
  have A7 := ALs_put A6 hl (v := 11) (by omega) f7 (fun j hj => by rw [r7, updT_n hj])
  refine ⟨A7.S.o74, fun g8 w8 => ?_⟩
  obtain ⟨f8, r8⟩ := wI (i := 12) (v := 0) (by omega) (by omega) (by omega) w8
  have A8 := ALs_put A7 hl (v := 12) (by omega) f8 (fun j hj => by rw [r8, updT_n hj])
  rw [show (0 : Int32) = iI 0 from rfl]
  have m11 : rd g8 74 11 = -1 := by rw [r8, updT_n (by omega), r7, updT_s]
  have m12 : rd g8 74 12 = 0 := by rw [r8, updT_s]
  refine c_allLoop (t0 := t0) hl gs hL fw e v9 ru A8 (Or.inl ⟨m11, m12, fun T V u => ?_⟩) fun g9 A9 B9 => ?_
  · have := (csT_ok gs fw e V.1).1.1
    omega
  have S9 := A9.S
  have H9 := A9.H
  refine ⟨H9.o0, S9.o74, fun g10 w10 => ?_⟩
  have c5 : aI g9 la 5 = iI (s 2) := by rw [← A9.L.c5]; exact rd_I g9 la (i := 5) (by omega)
  have em : mn (iI (s 2)) (3 : Int32) = iI (s 2) := by
    unfold mn
    refine if_neg fun u => ?_
    rw [show (3 : Int32) = iI 3 from rfl, iI_lt (by omega) (by omega) (by omega) (by omega)] at u
    omega
  rw [c5, em] at w10
  obtain ⟨f10, r10⟩ := wI (i := 13) (v := s 2) (by omega) (by omega) (by omega) w10
  have c0 := cntB_b (r := 0) gs fw (by omega) (by omega)
  obtain ⟨T, bT, est, emo⟩ := AB_fin B9 ex fun T V => by
    obtain ⟨d1, d2, d3, d4⟩ := csT_dig gs fw e (LYS.vt V.1)
    have c1 := cntB_b (r := 1) gs fw (by omega) (by omega)
    have c2 := cntB_b (r := 2) gs fw (by omega) (by omega)
    omega
  have V := bT.1.1
  have ok := csT_ok gs fw e V
  have ok0 := ok.1.1
  have mb := (mv_b (t := T) (z := z) gs).1
  have L3' : BL3 g10 s := A9.L3.cg (f10.row (by simp)) (f10.row (by simp)) (f10.2.2.2.2.2.1 83 List.not_mem_nil) (f10.row (by simp))
  refine lf_for (W := fun k (b : AH) r => wl_X6_mostMetAnywhere_177 post k b 74 (iI r)) (lo := 0) (hi := s 2) (fun r b => Fr [79] [] [] g10 b ∧ ∀ r', 0 ≤ r' → r' < r → rd b 79 r' = enc T r') b2.1 (fun k b r r0 r1 J nx => ?_) (fun k b J => ?_) g10 ⟨(Fr.refl g10).mono (by simp) (by simp) (by simp), fun r' _ _ => by omega⟩
  · obtain ⟨Fb, J⟩ := J
    have Sb := (S9.gr f10.gr).gr Fb.gr
    have q12 : aI b 74 12 = iI (csT s T) := by
      have : rd b 74 12 = csT s T := by rw [Fb.row (by simp), r10, updT_n (by omega)]; exact est
      rw [← this]; exact rd_I b 74 (i := 12) (by omega)
    have q13 : aI b 74 13 = iI (s 2) := by
      have : rd b 74 13 = s 2 := by rw [Fb.row (by simp), r10, updT_s]
      rw [← this]; exact rd_I b 74 (i := 13) (by omega)
    have nr := csT_nIn gs fw e V (r := r) r0 (by omega)
    have mr := nmr_c gs fw e (LYS.vt V) (r := r) r0 (by omega)
    have hd := hd_of e r0 (show r < 8 by omega) (V r r0 r1).1 (V r r0 r1).2.1
    have en := enc_nums (V r r0 r1).1
    have iv : ∀ {v : Int32}, v = iI r + 1 → v = iI (r + 1) := fun {v} e => by rw [e, show (1 : Int32) = iI 1 from rfl, iI_add]
    have ev : rd b 82 (40 * r + nmr s T r) = enc T r := by
      rw [Fb.row (by simp)]
      unfold nmr
      rw [ite_t r1]
      exact ((L3' r r0 (by omega)).1 r1).ss _ hd.1.1 hd.1.2 hd.2
    show wb_X6_mostMetAnywhere_177 (wl_X6_mostMetAnywhere_177 post k) b 74 (iI r) post
    unfold wb_X6_mostMetAnywhere_177
    refine ⟨Sb.o74, fun u => ?_, fun _ => ⟨Sb.o74, 79, Sb.p74_10, Sb.o74, 80, Sb.p74_0, Sb.o80, 82, Sb.p80_2, Sb.o74, ?_⟩⟩
    · rw [q13, iI_le (by omega) (by omega) (by omega) (by omega)] at u
      omega
    rw [q12, c_numberIn ok0 (by omega) r0 (by omega), nr, show (40 : Int32) = iI 40 from rfl, iI_mul, iI_add]
    refine ⟨Sb.o82, iI_in (by omega) (by rw [Sb.l82]; omega) (by rw [Sb.l82]; omega), Sb.o79, iI_in r0 (by rw [Sb.l79]; omega) (by rw [Sb.l79]; omega), fun g11 w11 v1 e1 => ?_⟩
    rw [iI_cl r0 (by omega), iI_cl (by omega) (by omega), rd_I _ _ (by omega), show r * 40 + nmr s T r = 40 * r + nmr s T r by omega, ev] at w11
    obtain ⟨f11, r11⟩ := wI (i := r) (v := enc T r) r0 (by omega) (by omega) w11
    rw [iv e1]
    refine nx g11 ⟨Fb.trans f11, fun r' u0 u1 => ?_⟩
    rw [r11]
    by_cases cr : r' = r
    · rw [cr, updT_s]
    · rw [updT_n cr]; exact J r' u0 (by omega)
  · obtain ⟨Fb, J⟩ := J
    have Sb := (S9.gr f10.gr).gr Fb.gr
    have Nb : NSo b s z := (A9.N.cg (f10.2.2.2.2.1 87 (by simp))).cg (Fb.2.2.2.2.1 87 (by simp))
    have q12 : aI b 74 12 = iI (csT s T) := by
      have : rd b 74 12 = csT s T := by rw [Fb.row (by simp), r10, updT_n (by omega)]; exact est
      rw [← this]; exact rd_I b 74 (i := 12) (by omega)
    have q13 : aI b 74 13 = iI (s 2) := by
      have : rd b 74 13 = s 2 := by rw [Fb.row (by simp), r10, updT_s]
      rw [← this]; exact rd_I b 74 (i := 13) (by omega)
    show wb_X6_mostMetAnywhere_177 (wl_X6_mostMetAnywhere_177 post k) b 74 (iI (s 2)) post
    unfold wb_X6_mostMetAnywhere_177
    refine ⟨Sb.o74, fun _ => ⟨Sb.o74, 80, Sb.p74_0, Sb.o74, Sb.o80, ?_⟩, fun u => absurd ?_ u⟩
    · rw [q12]
      refine c_notSo Sb gs hL fw e Nb V fun X hX _ => ⟨Sb.o74, fun g12 w12 => ?_⟩
      rw [lf_eq gs hX] at w12
      obtain ⟨f12, r12⟩ := wI' (i := 14) (by omega) w12
      have S12 := Sb.gr f12.gr
      refine ⟨S12.o74, ?_⟩
      have q11 : aI g12 74 11 = iI (mvT s T z) := by
        have : rd g12 74 11 = mvT s T z := by rw [r12, updT_n (by omega), Fb.row (by simp), r10, updT_n (by omega)]; exact emo
        rw [← this]; exact rd_I g12 74 (i := 11) (by omega)
      rw [q11]
      have Fa : Fr [74, 77, 79, 81, 82, 84, 87] [83, 86, 88] [] g0 g12 := (F1.mono (by simp) (by simp) (by simp)).trans ((F5.mono (by simp) (by simp) (by simp)).trans ((F6.mono (by simp) (by simp) (by simp)).trans ((A9.F.mono (by simp) (by simp) (by simp)).trans ((f10.mono (by simp) (by simp) (by simp)).trans ((Fb.mono (by simp) (by simp) (by simp)).trans (f12.mono (by simp) (by simp) (by simp)))))))
      refine K g12 T bT ((G0.mono (by simp) (by simp) (by simp) (by simp [DynP])).trans (Fa.gr.mono (by simp) (by simp) (by simp) (by simp [DynP]))) (by rw [Fa.1, eg]; rfl) (by rw [Fa.2.1, eg]; rfl) (fun j j1 j2 j3 j4 => ?_) (by rw [r12, updT_n (by omega), Fb.row (by simp), r10, updT_s]) (by rw [r12, updT_s]) (fun r r0 r1 => by rw [f12.row (by simp)]; exact J r r0 r1)
      rw [r12, updT_n j4, Fb.row (by simp), r10, updT_n j3, A9.ro j j1 j2, F6.row (by simp), F5.row (by simp), F1.row (by simp), eg]
      rfl
    · rw [q13, iI_le (by omega) (by omega) (by omega) (by omega)]
      exact Int.le_refl _
end CA2
