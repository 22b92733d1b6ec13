/-! where each ACT leads -/
def ptS (r sp : Int) : Int → Int := tr3 (fun _ => 0) r (sp % 8) (sp / 8 % 8) (sp / 64)
def onwP (s t z : Int → Int) (r how hr : Int) : Prop := flT s t z r hr ∧ ¬ (how = 4 ∧ polT s t z r = -1) ∧ insT s (candT s t z r how) z r ∧ flT s (candT s t z r how) z r hr
noncomputable def onwV (s t z : Int → Int) (r how hr : Int) : Int := iteP (onwP s t z r how hr) (nmB s r (enc (candT s t z r how) r)) (-1)
section LNK
variable {h h1 h2 h' h0 g0 g : AH} {qa0 qa ac la tw : Nat} {postV : AH → Prop} {post : AH → Int32 → Prop} {postJ : AH → Int64 → Prop} {a b c d f i j k v w x y pl r hr how goal st u sp sq q p last : Int} {s t t' z X F B : Int → Int} {S : BS} {zz : Int64} {D : Int → Int → Prop}
theorem fl_loc (e0 : t' (3 * r) = t (3 * r)) (e1 : t' (3 * r + 1) = t (3 * r + 1)) (e2 : t' (3 * r + 2) = t (3 * r + 2)) : flT s t' z r hr ↔ flT s t z r hr := by
  unfold flT wdT hiT
  rw [e0, e1, e2]
theorem pol_loc (e0 : t' (3 * r) = t (3 * r)) (e1 : t' (3 * r + 1) = t (3 * r + 1)) (e2 : t' (3 * r + 2) = t (3 * r + 2)) : polT s t' z r = polT s t z r := by
  unfold polT onT wdT hiT
  rw [e0, e1, e2]
theorem cand_loc (e0 : t' (3 * r) = t (3 * r)) (e1 : t' (3 * r + 1) = t (3 * r + 1)) (e2 : t' (3 * r + 2) = t (3 * r + 2)) : candT s t' z r how (3 * r) = candT s t z r how (3 * r) ∧ candT s t' z r how (3 * r + 1) = candT s t z r how (3 * r + 1) ∧ candT s t' z r how (3 * r + 2) = candT s t z r how (3 * r + 2) := by
  unfold candT
  rw [pol_loc e0 e1 e2]
  split
  · unfold trnT hiT
    rw [tr3_0, tr3_0, tr3_1, tr3_1, tr3_2, tr3_2, e0, e1, e2]
    exact ⟨rfl, rfl, rfl⟩
  · unfold sldT
    rw [tr3_0, tr3_0, tr3_1, tr3_1, tr3_2, tr3_2, e0, e1, e2]
    exact ⟨rfl, rfl, rfl⟩
theorem onw_loc (e0 : t' (3 * r) = t (3 * r)) (e1 : t' (3 * r + 1) = t (3 * r + 1)) (e2 : t' (3 * r + 2) = t (3 * r + 2)) : onwV s t' z r how hr = onwV s t z r how hr := by
  obtain ⟨c0, c1, c2⟩ := cand_loc (s := s) (z := z) (how := how) e0 e1 e2
  obtain ⟨-, en, -, -, ins, -, -⟩ := spot_c (s := s) (z := z) c0 c1 c2
  unfold onwV onwP
  rw [en]
  refine ite_c ?_
  rw [fl_loc e0 e1 e2, pol_loc e0 e1 e2, ins, fl_loc c0 c1 c2]
theorem hd_of (e : EZ z s) (h1 : 0 ≤ r) (h2 : r < 8) (hSp : Spot t z r) (hI : insT s t z r) : (0 ≤ enc t r ∧ enc t r < ltB s r) ∧ hdB s r (enc t r) := by
  have en := enc_nums hSp
  obtain ⟨w1, w2⟩ := wsp_enc e h1 h2 hSp
  obtain ⟨-, -, u, sq⟩ := hSp
  refine ⟨⟨en.1.1, ?_⟩, by unfold hdB; rw [w1, w2, en.2.1, en.2.2.1]; exact hI.2.2⟩
  unfold ltB
  split
  · rename_i c
    have := sq (by rw [e _ (by omega) (by omega), e _ (by omega) (by omega)]; rw [show 99 + (3 * r + 1) = 99 + 3 * r + 1 by omega]; exact c)
    omega
  · exact en.1.2
theorem pt_enc (q0 : 0 ≤ q) (q1 : q < 128) : enc (ptS r q) r = q := by
  unfold enc ptS
  rw [tr3_0, tr3_1, tr3_2]
  omega
theorem of_hd (e : EZ z s) (h1 : 0 ≤ r) (h2 : r < 8) (q0 : 0 ≤ q) (q1 : q < ltB s r) (hd : hdB s r q) : Spot (ptS r q) z r ∧ insT s (ptS r q) z r := by
  have lb := ltB_b (s := s) (r := r)
  have hS : Spot (ptS r q) z r := by
    unfold Spot ptS
    rw [tr3_0, tr3_1, tr3_2]
    refine ⟨by omega, by omega, by omega, fun c => ?_⟩
    rw [e _ (by omega) (by omega), e _ (by omega) (by omega), show 99 + (3 * r + 1) = 99 + 3 * r + 1 by omega] at c
    unfold ltB at q1
    rw [if_pos c] at q1
    omega
  obtain ⟨w1, w2⟩ := wsp_enc e h1 h2 hS
  rw [pt_enc q0 (by omega)] at w1 w2
  refine ⟨hS, ?_⟩
  unfold hdB at hd
  rw [w1, w2] at hd
  unfold insT
  rw [show ptS r q (3 * r) = q % 8 by unfold ptS; rw [tr3_0], show ptS r q (3 * r + 1) = q / 8 % 8 by unfold ptS; rw [tr3_1]]
  omega
theorem same_r (hS : Spot t z r) (hS' : Spot t' z r) (ee : enc t' r = enc t r) : t' (3 * r) = t (3 * r) ∧ t' (3 * r + 1) = t (3 * r + 1) ∧ t' (3 * r + 2) = t (3 * r + 2) := by
  have a := enc_nums hS
  have b := enc_nums hS'
  rw [ee] at b
  exact ⟨by omega, by omega, by omega⟩
theorem c_onwardFrom (S : CSh h) (H : LB h la) (L : LR h la s) (pz : aP h 80 0 = some la) (gs : GS s) (fw : few s) (e : EZ z s) (L3 : BL3 h s) (h1 : 0 ≤ r) (h2 : r < s 2) (hSp : Spot t z r) (hIn : insT s t z r) (h3 : 0 ≤ how) (h4 : how ≤ 4) (hh : 0 ≤ hr) (hh' : hr < 24) (K : post h (iI (onwV s t z r how hr))) : wp_X0_onwardFrom h 80 (iI r) (iI (nmB s r (enc t r))) (iI how) (iI hr) post := by
  obtain ⟨⟨hS, n0, n1, n2, n3, n4, n5, hK, hW⟩, hD, hPo, hNe⟩ := gs
  have gs : GS s := ⟨⟨hS, n0, n1, n2, n3, n4, n5, hK, hW⟩, hD, hPo, hNe⟩
  have s2 := hS 2 (by omega) (by omega)
  have r3 : r < 3 := by have := fw.1; omega
  have hZ := Z1.of e hD h1 h2 n2
  have hI8 := in8_of n0 n1 hIn
  have en := enc_nums hSp
  obtain ⟨w1, w2⟩ := wsp_enc e h1 (show r < 8 by omega) hSp
  obtain ⟨⟨b0, b1⟩, bd⟩ := hd_of e h1 (by omega) hSp hIn
  have B := (L3 r h1 r3).1 h2
  have nb := nmB_nn (s := s) (r := r) b0
  have nl := nmB_lt (s := s) (r := r) (sp := enc t r) (sq := ltB s r) b0 b1 bd
  have n40 := nmB_40 gs fw h1 h2
  have ecv := B.cv _ b0 b1 bd
  have ess := B.ss _ b0 b1 bd
  rw [w1, w2] at ecv
  have hb : ∀ x y, 0 ≤ x → x < 8 → 0 ≤ y → y < 8 → (zb (cvZ (wdT t z r) (hiT t z r) (enc t r % 64)) (8 * y + x) ↔ onT t z r x y) := fun x y x1 x2 y1 y2 => zb_spot hSp hI8 hZ x1 x2 y1 y2
  have ff := fits_fl hD hS n0 n1 n2 e h1 h2 hh hh' hSp.P1 hIn hb
  generalize hp : nmB s r (enc t r) = p at *
  have ep : r * 40 + p = 40 * r + p := by omega
  unfold wp_X0_onwardFrom
  simp (disch := omega) only [CSh.o0 S, CSh.o1 S, CSh.o2 S, CSh.o3 S, CSh.o26 S, CSh.o27 S, CSh.o29 S, CSh.o30 S, CSh.o31 S, CSh.o56 S, CSh.o57 S, CSh.o58 S, CSh.o62 S, CSh.o66 S, CSh.o70 S, CSh.o74 S, CSh.o75 S, CSh.o77 S, CSh.o79 S, CSh.o80 S, CSh.o81 S, CSh.o82 S, CSh.o83 S, CSh.o84 S, CSh.o85 S, CSh.o86 S, CSh.o87 S, CSh.o88 S, CSh.o53 S, CSh.o54 S, CSh.o55 S, CSh.o59 S, CSh.o60 S, CSh.o61 S, CSh.o63 S, CSh.o64 S, CSh.o65 S, CSh.o67 S, CSh.o68 S, CSh.o69 S, CSh.o71 S, CSh.o72 S, CSh.o73 S, CSh.o89 S, CSh.o90 S, CSh.o91 S, CSh.l1 S, CSh.l3 S, CSh.l27 S, CSh.l29 S, CSh.l30 S, CSh.l56 S, CSh.l57 S, CSh.l58 S, CSh.l75 S, CSh.l77 S, CSh.l79 S, CSh.l81 S, CSh.l82 S, CSh.l83 S, CSh.l84 S, CSh.l85 S, CSh.l86 S, CSh.l87 S, CSh.l88 S, CSh.l54 S, CSh.l55 S, CSh.l60 S, CSh.l61 S, CSh.l64 S, CSh.l65 S, CSh.l68 S, CSh.l69 S, CSh.l72 S, CSh.l73 S, CSh.l90 S, CSh.l91 S, CSh.p0_0 S, CSh.p0_3 S, CSh.p0_4 S, CSh.p0_5 S, CSh.p0_6 S, CSh.p0_7 S, CSh.p0_8 S, CSh.p0_9 S, CSh.p0_10 S, CSh.p0_14 S, CSh.p2_0 S, CSh.p26_0 S, CSh.p26_13 S, CSh.p26_14 S, CSh.p31_1 S, CSh.p31_3 S, CSh.p31_4 S, CSh.p62_0 S, CSh.p66_0 S, CSh.p70_0 S, CSh.p74_0 S, CSh.p74_1 S, CSh.p74_6 S, CSh.p74_7 S, CSh.p74_10 S, CSh.p80_1 S, CSh.p80_2 S, CSh.p80_3 S, CSh.p80_4 S, CSh.p80_5 S, CSh.p80_6 S, CSh.p80_7 S, CSh.p80_8 S, CSh.p53_1 S, CSh.p53_2 S, CSh.p59_1 S, CSh.p59_2 S, CSh.p63_1 S, CSh.p63_2 S, CSh.p67_1 S, CSh.p67_2 S, CSh.p71_1 S, CSh.p71_2 S, CSh.p89_1 S, CSh.p89_2 S, pz, LB.o0 H, ep, ecv, c_carries H L hS hD n2 h1 h2 hh hh', cP, cP', ite_n, -Int.reduceToNat, -Int32.reduceToNatClampNeg, il0, il1, il2, il3, il4, il5, il6, il7, il8, il9, il10, il11, il12, il13, il14, il15, il16, il17, il18, il19, il20, il21, il22, il23, il24, il25, il26, il27, il28, il29, il30, il31, il32, il35, il36, il38, il40, il42, il43, il44, il45, il46, il47, il48, il49, il50, il51, il52, il57, il59, il60, il63, il64, il75, il80, il95, il96, il97, il98, il99, il100, il120, il122, il123, il127, il128, il135, il167, il175, il225, il249, il250, il255, il256, il360, il370, il384, il600, il700, il740, il900, il940, il1024, il1600, il4800, il64000, il125000, il262143, il1000000000, iI_toInt, iI_add, iI_sub, iI_mul, iI_neg, iI_lt, iI_le, iI_eq, iI_n, iI_in, iI_div, iI_mod, iI_shm, iI_and1, iI_and7, iI_and63, iI_shr3, iI_shr6, rd_I, ob, Option.some.injEq, exists_eq_left', exists_eq_left, true_and, and_true, fqI, fqJ, eq_self, true_or, or_true, bP_0, bP_0i, npP, bP_1i, bP_b, not_true_eq_false, not_false_eq_true, false_implies, true_implies, implies_true, Classical.not_not, and_self]
  rw [ite_c ff]
  unfold onwV at K
  by_cases c1 : flT s t z r hr
  case neg =>
    rw [ite_f c1]
    rw [ite_f (fun u => c1 u.1)] at K
    exact K
  rw [ite_t c1]
  rw [ess, c_landing H L hS hD hPo n0 n1 n2 n3 e h1 h2 hSp hI8 h3 h4]
  by_cases c2 : how = 4 ∧ polT s t z r = -1
  · have el : lndT s t z r how = -2 := by unfold lndT; rw [ite_t c2]
    rw [ite_f (fun u => u.2.1 c2)] at K
    rw [el, ite_t (by decide)]
    exact K
  by_cases c3 : insT s (candT s t z r how) z r
  case neg =>
    have el : lndT s t z r how = -3 := by unfold lndT; rw [ite_f c2, ite_f c3]
    rw [ite_f (fun u => c3 u.2.2.1)] at K
    rw [el, ite_t (by decide)]
    exact K
  have el : lndT s t z r how = enc (candT s t z r how) r := by unfold lndT; rw [ite_f c2, ite_t c3]
  have hSc := cand_spot hSp c3 hZ n0 n1
  have enc' := enc_nums hSc
  have hI8c := in8_of n0 n1 c3
  obtain ⟨v1, v2⟩ := wsp_enc e h1 (show r < 8 by omega) hSc
  have hbc : ∀ x y, 0 ≤ x → x < 8 → 0 ≤ y → y < 8 → (zb (cvZ (wdT (candT s t z r how) z r) (hiT (candT s t z r how) z r) (enc (candT s t z r how) r % 64)) (8 * y + x) ↔ onT (candT s t z r how) z r x y) := fun x y x1 x2 y1 y2 => zb_spot hSc hI8c hZ x1 x2 y1 y2
  have ff2 := fits_fl hD hS n0 n1 n2 e h1 h2 hh hh' hSc.P1 c3 hbc
  obtain ⟨⟨d0, d1⟩, dd⟩ := hd_of e h1 (by omega) hSc c3
  have enn := B.nn _ d0 d1 dd
  rw [el]
  generalize hq : enc (candT s t z r how) r = q at *
  have eq : r * 128 + q = 128 * r + q := by omega
  simp (disch := omega) only [CSh.o0 S, CSh.o1 S, CSh.o2 S, CSh.o3 S, CSh.o26 S, CSh.o27 S, CSh.o29 S, CSh.o30 S, CSh.o31 S, CSh.o56 S, CSh.o57 S, CSh.o58 S, CSh.o62 S, CSh.o66 S, CSh.o70 S, CSh.o74 S, CSh.o75 S, CSh.o77 S, CSh.o79 S, CSh.o80 S, CSh.o81 S, CSh.o82 S, CSh.o83 S, CSh.o84 S, CSh.o85 S, CSh.o86 S, CSh.o87 S, CSh.o88 S, CSh.o53 S, CSh.o54 S, CSh.o55 S, CSh.o59 S, CSh.o60 S, CSh.o61 S, CSh.o63 S, CSh.o64 S, CSh.o65 S, CSh.o67 S, CSh.o68 S, CSh.o69 S, CSh.o71 S, CSh.o72 S, CSh.o73 S, CSh.o89 S, CSh.o90 S, CSh.o91 S, CSh.l1 S, CSh.l3 S, CSh.l27 S, CSh.l29 S, CSh.l30 S, CSh.l56 S, CSh.l57 S, CSh.l58 S, CSh.l75 S, CSh.l77 S, CSh.l79 S, CSh.l81 S, CSh.l82 S, CSh.l83 S, CSh.l84 S, CSh.l85 S, CSh.l86 S, CSh.l87 S, CSh.l88 S, CSh.l54 S, CSh.l55 S, CSh.l60 S, CSh.l61 S, CSh.l64 S, CSh.l65 S, CSh.l68 S, CSh.l69 S, CSh.l72 S, CSh.l73 S, CSh.l90 S, CSh.l91 S, CSh.p0_0 S, CSh.p0_3 S, CSh.p0_4 S, CSh.p0_5 S, CSh.p0_6 S, CSh.p0_7 S, CSh.p0_8 S, CSh.p0_9 S, CSh.p0_10 S, CSh.p0_14 S, CSh.p2_0 S, CSh.p26_0 S, CSh.p26_13 S, CSh.p26_14 S, CSh.p31_1 S, CSh.p31_3 S, CSh.p31_4 S, CSh.p62_0 S, CSh.p66_0 S, CSh.p70_0 S, CSh.p74_0 S, CSh.p74_1 S, CSh.p74_6 S, CSh.p74_7 S, CSh.p74_10 S, CSh.p80_1 S, CSh.p80_2 S, CSh.p80_3 S, CSh.p80_4 S, CSh.p80_5 S, CSh.p80_6 S, CSh.p80_7 S, CSh.p80_8 S, CSh.p53_1 S, CSh.p53_2 S, CSh.p59_1 S, CSh.p59_2 S, CSh.p63_1 S, CSh.p63_2 S, CSh.p67_1 S, CSh.p67_2 S, CSh.p71_1 S, CSh.p71_2 S, CSh.p89_1 S, CSh.p89_2 S, pz, LB.o0 H, eq, enn, c_coverAt H L hD h1 h2 n2, c_carries H L hS hD n2 h1 h2 hh hh', cP, cP', ite_n, -Int.reduceToNat, -Int32.reduceToNatClampNeg, il0, il1, il2, il3, il4, il5, il6, il7, il8, il9, il10, il11, il12, il13, il14, il15, il16, il17, il18, il19, il20, il21, il22, il23, il24, il25, il26, il27, il28, il29, il30, il31, il32, il35, il36, il38, il40, il42, il43, il44, il45, il46, il47, il48, il49, il50, il51, il52, il57, il59, il60, il63, il64, il75, il80, il95, il96, il97, il98, il99, il100, il120, il122, il123, il127, il128, il135, il167, il175, il225, il249, il250, il255, il256, il360, il370, il384, il600, il700, il740, il900, il940, il1024, il1600, il4800, il64000, il125000, il262143, il1000000000, iI_toInt, iI_add, iI_sub, iI_mul, iI_neg, iI_lt, iI_le, iI_eq, iI_n, iI_in, iI_div, iI_mod, iI_shm, iI_and1, iI_and7, iI_and63, iI_shr3, iI_shr6, rd_I, ob, Option.some.injEq, exists_eq_left', exists_eq_left, true_and, and_true, fqI, fqJ, eq_self, true_or, or_true, bP_0, bP_0i, npP, bP_1i, bP_b, not_true_eq_false, not_false_eq_true, false_implies, true_implies, implies_true, Classical.not_not, and_self]
  rw [ite_f (by omega), v1, v2, ite_c ff2]
  by_cases c4 : flT s (candT s t z r how) z r hr
  · rw [ite_t ⟨c1, c2, c3, c4⟩] at K
    rw [ite_t c4]
    exact K
  · rw [ite_f (fun u => c4 u.2.2.2)] at K
    rw [ite_f c4]
    exact K
theorem onw_b (gs : GS s) (fw : few s) (e : EZ z s) (h1 : 0 ≤ r) (h2 : r < s 2) (hSp : Spot t z r) : -1 ≤ onwV s t z r how hr ∧ onwV s t z r how hr < 40 := by
  obtain ⟨⟨hS, n0, n1, n2, n3, n4, n5, hK, hW⟩, hD, hPo, hNe⟩ := gs
  have gs : GS s := ⟨⟨hS, n0, n1, n2, n3, n4, n5, hK, hW⟩, hD, hPo, hNe⟩
  unfold onwV
  by_cases c : onwP s t z r how hr
  · rw [ite_t c]
    have hSc := cand_spot hSp c.2.2.1 (Z1.of e hD h1 h2 n2) n0 n1
    obtain ⟨⟨b0, b1⟩, bd⟩ := hd_of e h1 (by omega) hSc c.2.2.1
    have nb := nmB_nn (s := s) (r := r) b0
    have nl := nmB_lt (s := s) (r := r) b0 b1 bd
    have n40 := nmB_40 gs fw h1 h2
    omega
  · rw [ite_f c]; omega
/-- the table of what leads where -/
def LK (h : AH) (s z : Int → Int) (hr : Int) : Prop := ∀ (r how : Int) (t : Int → Int), 0 ≤ r → r < s 2 → Spot t z r → insT s t z r → 0 ≤ how → how ≤ 4 → rd h 85 ((40 * r + nmB s r (enc t r)) * 5 + how) = onwV s t z r how hr
def LKx (h g : AH) (s z : Int → Int) (hr : Int) (D : Int → Int → Int → Prop) : Prop := ∀ r p how, 0 ≤ r → r < s 2 → 0 ≤ p → p < cntB s r → 0 ≤ how → how ≤ 4 → D r p how → rd g 85 ((40 * r + p) * 5 + how) = onwV s (ptS r (rd h 82 (40 * r + p))) z r how hr
theorem LKx.cg {D D' : Int → Int → Int → Prop} (T : LKx h g s z hr D) (e : ∀ r p how, 0 ≤ r → 0 ≤ p → p < cntB s r → 0 ≤ how → how ≤ 4 → D' r p how → D r p how) : LKx h g s z hr D' := fun r p how r0 r1 p0 p1 w0 w1 d => T r p how r0 r1 p0 p1 w0 w1 (e r p how r0 p0 p1 w0 w1 d)
theorem c_link (S : CSh h) (H : LB h la) (L : LR h la s) (hl : la = 5 ∨ la = 32) (pz : aP h 80 0 = some la) (gs : GS s) (fw : few s) (e : EZ z s) (L3 : BL3 h s) (hh : 0 ≤ hr) (hh' : hr < 24) (K : ∀ h', Fr [85] [] [] h h' → LK h' s z hr → postV h') : wp_X0_link h 80 (iI hr) postV := by
  have b2 := gs.1.1 2 (by omega) (by omega)
  have f3 := fw.1
  have base : ∀ {g}, Fr [85] [] [] h g → CSh g ∧ LB g la ∧ LR g la s ∧ aP g 80 0 = some la ∧ BL3 g s ∧ rd g 82 = rd h 82 := fun {g} F => ⟨S.gr F.gr, H.gr F.gr (hl.imp_right Or.inl), L.fr F (fun j hj => by simp; omega) (fun j hj => List.not_mem_nil), by rw [F.aPe]; exact pz, L3.cg (F.row (by simp)) (F.row (by simp)) (F.2.2.2.2.2.1 83 (by simp)) (F.row (by simp)), F.row (by simp)⟩
  have fin : ∀ g, Fr [85] [] [] h g → LKx h g s z hr (fun r p how => r < s 2) → postV g := fun g F T => by
    refine K g F fun r how t r0 r1 hSp hIn w0 w1 => ?_
    obtain ⟨⟨b0, b1⟩, bd⟩ := hd_of e r0 (by omega) hSp hIn
    have nb := nmB_nn (s := s) (r := r) b0
    have nl := nmB_lt (s := s) (r := r) b0 b1 bd
    have ec : cntB s r = nmB s r (ltB s r) := by unfold cntB; rw [ite_t r1]
    rw [T r (nmB s r (enc t r)) how r0 r1 nb (by omega) w0 w1 r1, ((L3 r r0 (by omega)).1 r1).ss _ b0 b1 bd]
    have lb := ltB_b (s := s) (r := r)
    obtain ⟨e0, e1, e2⟩ := same_r hSp (of_hd e r0 (by omega) b0 b1 bd).1 (pt_enc b0 (by omega))
    exact onw_loc e0 e1 e2
  refine lf_for (W := fun k (g : AH) r => wl_X0_link_2 postV k g 80 (iI hr) (iI r)) (lo := 0) (hi := s 2) (fun r g => Fr [85] [] [] h g ∧ LKx h g s z hr (fun r' _ _ => r' < r)) b2.1 (fun k g r r0 r1 J nx => ?_) (fun k g J => ?_) h ⟨(Fr.refl h).mono (by simp) (by simp) (by simp), fun r p how r0 r1 p0 p1 w0 w1 d => by omega⟩
  · obtain ⟨Fg, T⟩ := J
    obtain ⟨Sg, Hg, Lg, pg, L3g, e82⟩ := base Fg
    have c5 := Lg.c5
    have cb := cntB_b gs fw r0 (show r < 3 by omega)
    show wb_X0_link_2 (wl_X0_link_2 postV k) g 80 (iI hr) (iI r) postV
    unfold wb_X0_link_2
    simp (disch := omega) only [CSh.o0 Sg, CSh.o1 Sg, CSh.o2 Sg, CSh.o3 Sg, CSh.o26 Sg, CSh.o27 Sg, CSh.o29 Sg, CSh.o30 Sg, CSh.o31 Sg, CSh.o56 Sg, CSh.o57 Sg, CSh.o58 Sg, CSh.o62 Sg, CSh.o66 Sg, CSh.o70 Sg, CSh.o74 Sg, CSh.o75 Sg, CSh.o77 Sg, CSh.o79 Sg, CSh.o80 Sg, CSh.o81 Sg, CSh.o82 Sg, CSh.o83 Sg, CSh.o84 Sg, CSh.o85 Sg, CSh.o86 Sg, CSh.o87 Sg, CSh.o88 Sg, CSh.o53 Sg, CSh.o54 Sg, CSh.o55 Sg, CSh.o59 Sg, CSh.o60 Sg, CSh.o61 Sg, CSh.o63 Sg, CSh.o64 Sg, CSh.o65 Sg, CSh.o67 Sg, CSh.o68 Sg, CSh.o69 Sg, CSh.o71 Sg, CSh.o72 Sg, CSh.o73 Sg, CSh.o89 Sg, CSh.o90 Sg, CSh.o91 Sg, CSh.l1 Sg, CSh.l3 Sg, CSh.l27 Sg, CSh.l29 Sg, CSh.l30 Sg, CSh.l56 Sg, CSh.l57 Sg, CSh.l58 Sg, CSh.l75 Sg, CSh.l77 Sg, CSh.l79 Sg, CSh.l81 Sg, CSh.l82 Sg, CSh.l83 Sg, CSh.l84 Sg, CSh.l85 Sg, CSh.l86 Sg, CSh.l87 Sg, CSh.l88 Sg, CSh.l54 Sg, CSh.l55 Sg, CSh.l60 Sg, CSh.l61 Sg, CSh.l64 Sg, CSh.l65 Sg, CSh.l68 Sg, CSh.l69 Sg, CSh.l72 Sg, CSh.l73 Sg, CSh.l90 Sg, CSh.l91 Sg, CSh.p0_0 Sg, CSh.p0_3 Sg, CSh.p0_4 Sg, CSh.p0_5 Sg, CSh.p0_6 Sg, CSh.p0_7 Sg, CSh.p0_8 Sg, CSh.p0_9 Sg, CSh.p0_10 Sg, CSh.p0_14 Sg, CSh.p2_0 Sg, CSh.p26_0 Sg, CSh.p26_13 Sg, CSh.p26_14 Sg, CSh.p31_1 Sg, CSh.p31_3 Sg, CSh.p31_4 Sg, CSh.p62_0 Sg, CSh.p66_0 Sg, CSh.p70_0 Sg, CSh.p74_0 Sg, CSh.p74_1 Sg, CSh.p74_6 Sg, CSh.p74_7 Sg, CSh.p74_10 Sg, CSh.p80_1 Sg, CSh.p80_2 Sg, CSh.p80_3 Sg, CSh.p80_4 Sg, CSh.p80_5 Sg, CSh.p80_6 Sg, CSh.p80_7 Sg, CSh.p80_8 Sg, CSh.p53_1 Sg, CSh.p53_2 Sg, CSh.p59_1 Sg, CSh.p59_2 Sg, CSh.p63_1 Sg, CSh.p63_2 Sg, CSh.p67_1 Sg, CSh.p67_2 Sg, CSh.p71_1 Sg, CSh.p71_2 Sg, CSh.p89_1 Sg, CSh.p89_2 Sg, pg, LB.o0 Hg, fd0, fd1, fd2, fd3, fd4, fd5, fd6, fd7, fd8, fd9, fd10, fd11, fd12, fd13, fd14, fd15, fd16, fd17, fd18, fd19, fd20, fd21, fd22, fd23, fd24, fd25, fd26, fd27, fd28, fd29, fd30, fd31, fd32, fd33, fd34, fd35, fd36, fd37, fd38, fd39, fd40, fd41, fd42, fd43, fd44, fd45, fd46, fd47, fd48, fd49, fd50, fd51, fd52, c5, -Int.reduceToNat, -Int32.reduceToNatClampNeg, il0, il1, il2, il3, il4, il5, il6, il7, il8, il9, il10, il11, il12, il13, il14, il15, il16, il17, il18, il19, il20, il21, il22, il23, il24, il25, il26, il27, il28, il29, il30, il31, il32, il35, il36, il38, il40, il42, il43, il44, il45, il46, il47, il48, il49, il50, il51, il52, il57, il59, il60, il63, il64, il75, il80, il95, il96, il97, il98, il99, il100, il120, il122, il123, il127, il128, il135, il167, il175, il225, il249, il250, il255, il256, il360, il370, il384, il600, il700, il740, il900, il940, il1024, il1600, il4800, il64000, il125000, il262143, il1000000000, iI_toInt, iI_add, iI_sub, iI_mul, iI_neg, iI_lt, iI_le, iI_eq, iI_n, iI_in, iI_div, iI_mod, iI_shm, iI_and1, iI_and7, iI_and63, iI_shr3, iI_shr6, rd_I, ob, Option.some.injEq, exists_eq_left', exists_eq_left, true_and, and_true, fqI, fqJ, eq_self, true_or, or_true, bP_0, bP_0i, npP, bP_1i, bP_b, not_true_eq_false, not_false_eq_true, false_implies, true_implies, implies_true, Classical.not_not, and_self]
    refine ⟨fun u => by omega, fun _ => ⟨fun u => by omega, fun _ => ?_⟩⟩
    refine lf_for (W := fun k' (g : AH) p => wl_X0_link_20 (wl_X0_link_2 postV k) postV k' g 80 (iI hr) (iI r) (iI p)) (lo := 0) (hi := cntB s r) (fun p g => Fr [85] [] [] h g ∧ LKx h g s z hr (fun r' p' _ => r' < r ∨ (r' = r ∧ p' < p))) cb.1 (fun k' g p p0 p1 J nx' => ?_) (fun k' g J => ?_) g ⟨Fg, T.cg fun r' p' how' _ _ _ _ _ d => by omega⟩
    · obtain ⟨Fg, T⟩ := J
      obtain ⟨Sg, Hg, Lg, pg, L3g, e82⟩ := base Fg
      have ec := L3g.cnt r0 (show r < 3 by omega)
      show wb_X0_link_20 (wl_X0_link_2 postV k) (wl_X0_link_20 (wl_X0_link_2 postV k) postV k') g 80 (iI hr) (iI r) (iI p) postV
      unfold wb_X0_link_20
      simp (disch := omega) only [CSh.o0 Sg, CSh.o1 Sg, CSh.o2 Sg, CSh.o3 Sg, CSh.o26 Sg, CSh.o27 Sg, CSh.o29 Sg, CSh.o30 Sg, CSh.o31 Sg, CSh.o56 Sg, CSh.o57 Sg, CSh.o58 Sg, CSh.o62 Sg, CSh.o66 Sg, CSh.o70 Sg, CSh.o74 Sg, CSh.o75 Sg, CSh.o77 Sg, CSh.o79 Sg, CSh.o80 Sg, CSh.o81 Sg, CSh.o82 Sg, CSh.o83 Sg, CSh.o84 Sg, CSh.o85 Sg, CSh.o86 Sg, CSh.o87 Sg, CSh.o88 Sg, CSh.o53 Sg, CSh.o54 Sg, CSh.o55 Sg, CSh.o59 Sg, CSh.o60 Sg, CSh.o61 Sg, CSh.o63 Sg, CSh.o64 Sg, CSh.o65 Sg, CSh.o67 Sg, CSh.o68 Sg, CSh.o69 Sg, CSh.o71 Sg, CSh.o72 Sg, CSh.o73 Sg, CSh.o89 Sg, CSh.o90 Sg, CSh.o91 Sg, CSh.l1 Sg, CSh.l3 Sg, CSh.l27 Sg, CSh.l29 Sg, CSh.l30 Sg, CSh.l56 Sg, CSh.l57 Sg, CSh.l58 Sg, CSh.l75 Sg, CSh.l77 Sg, CSh.l79 Sg, CSh.l81 Sg, CSh.l82 Sg, CSh.l83 Sg, CSh.l84 Sg, CSh.l85 Sg, CSh.l86 Sg, CSh.l87 Sg, CSh.l88 Sg, CSh.l54 Sg, CSh.l55 Sg, CSh.l60 Sg, CSh.l61 Sg, CSh.l64 Sg, CSh.l65 Sg, CSh.l68 Sg, CSh.l69 Sg, CSh.l72 Sg, CSh.l73 Sg, CSh.l90 Sg, CSh.l91 Sg, CSh.p0_0 Sg, CSh.p0_3 Sg, CSh.p0_4 Sg, CSh.p0_5 Sg, CSh.p0_6 Sg, CSh.p0_7 Sg, CSh.p0_8 Sg, CSh.p0_9 Sg, CSh.p0_10 Sg, CSh.p0_14 Sg, CSh.p2_0 Sg, CSh.p26_0 Sg, CSh.p26_13 Sg, CSh.p26_14 Sg, CSh.p31_1 Sg, CSh.p31_3 Sg, CSh.p31_4 Sg, CSh.p62_0 Sg, CSh.p66_0 Sg, CSh.p70_0 Sg, CSh.p74_0 Sg, CSh.p74_1 Sg, CSh.p74_6 Sg, CSh.p74_7 Sg, CSh.p74_10 Sg, CSh.p80_1 Sg, CSh.p80_2 Sg, CSh.p80_3 Sg, CSh.p80_4 Sg, CSh.p80_5 Sg, CSh.p80_6 Sg, CSh.p80_7 Sg, CSh.p80_8 Sg, CSh.p53_1 Sg, CSh.p53_2 Sg, CSh.p59_1 Sg, CSh.p59_2 Sg, CSh.p63_1 Sg, CSh.p63_2 Sg, CSh.p67_1 Sg, CSh.p67_2 Sg, CSh.p71_1 Sg, CSh.p71_2 Sg, CSh.p89_1 Sg, CSh.p89_2 Sg, ec, -Int.reduceToNat, -Int32.reduceToNatClampNeg, il0, il1, il2, il3, il4, il5, il6, il7, il8, il9, il10, il11, il12, il13, il14, il15, il16, il17, il18, il19, il20, il21, il22, il23, il24, il25, il26, il27, il28, il29, il30, il31, il32, il35, il36, il38, il40, il42, il43, il44, il45, il46, il47, il48, il49, il50, il51, il52, il57, il59, il60, il63, il64, il75, il80, il95, il96, il97, il98, il99, il100, il120, il122, il123, il127, il128, il135, il167, il175, il225, il249, il250, il255, il256, il360, il370, il384, il600, il700, il740, il900, il940, il1024, il1600, il4800, il64000, il125000, il262143, il1000000000, iI_toInt, iI_add, iI_sub, iI_mul, iI_neg, iI_lt, iI_le, iI_eq, iI_n, iI_in, iI_div, iI_mod, iI_shm, iI_and1, iI_and7, iI_and63, iI_shr3, iI_shr6, rd_I, ob, Option.some.injEq, exists_eq_left', exists_eq_left, true_and, and_true, fqI, fqJ, eq_self, true_or, or_true, bP_0, bP_0i, npP, bP_1i, bP_b, not_true_eq_false, not_false_eq_true, false_implies, true_implies, implies_true, Classical.not_not, and_self]
      refine ⟨fun u => by omega, fun _ => ?_⟩
      refine lf_for (W := fun k'' (g : AH) how => wl_X0_link_33 (wl_X0_link_2 postV k) (wl_X0_link_20 (wl_X0_link_2 postV k) postV k') postV k'' g 80 (iI hr) (iI r) (iI p) (iI how)) (lo := 0) (hi := 5) (fun how g => Fr [85] [] [] h g ∧ LKx h g s z hr (fun r' p' how' => r' < r ∨ (r' = r ∧ (p' < p ∨ (p' = p ∧ how' < how))))) (by omega) (fun k'' g how w0 w1 J nx'' => ?_) (fun k'' g J => ?_) g ⟨Fg, T.cg fun r' p' how' _ _ _ _ _ d => by omega⟩
      · obtain ⟨Fg, T⟩ := J
        obtain ⟨Sg, Hg, Lg, pg, L3g, e82⟩ := base Fg
        show wb_X0_link_33 (wl_X0_link_2 postV k) (wl_X0_link_20 (wl_X0_link_2 postV k) postV k') (wl_X0_link_33 (wl_X0_link_2 postV k) (wl_X0_link_20 (wl_X0_link_2 postV k) postV k') postV k'') g 80 (iI hr) (iI r) (iI p) (iI how) postV
        unfold wb_X0_link_33
        obtain ⟨⟨q0, q1⟩, qd, qe⟩ := L3g.spot r0 (show r < 3 by omega) r1 p0 p1
        generalize hq : rd g 82 (40 * r + p) = q at *
        have lb := ltB_b (s := s) (r := r)
        obtain ⟨hSp, hIn⟩ := of_hd e r0 (show r < 8 by omega) q0 q1 qd
        have pe := pt_enc (r := r) q0 (show q < 128 by omega)
        have obd := onw_b (how := how) (hr := hr) gs fw e r0 r1 hSp
        simp (disch := omega) only [CSh.o0 Sg, CSh.o1 Sg, CSh.o2 Sg, CSh.o3 Sg, CSh.o26 Sg, CSh.o27 Sg, CSh.o29 Sg, CSh.o30 Sg, CSh.o31 Sg, CSh.o56 Sg, CSh.o57 Sg, CSh.o58 Sg, CSh.o62 Sg, CSh.o66 Sg, CSh.o70 Sg, CSh.o74 Sg, CSh.o75 Sg, CSh.o77 Sg, CSh.o79 Sg, CSh.o80 Sg, CSh.o81 Sg, CSh.o82 Sg, CSh.o83 Sg, CSh.o84 Sg, CSh.o85 Sg, CSh.o86 Sg, CSh.o87 Sg, CSh.o88 Sg, CSh.o53 Sg, CSh.o54 Sg, CSh.o55 Sg, CSh.o59 Sg, CSh.o60 Sg, CSh.o61 Sg, CSh.o63 Sg, CSh.o64 Sg, CSh.o65 Sg, CSh.o67 Sg, CSh.o68 Sg, CSh.o69 Sg, CSh.o71 Sg, CSh.o72 Sg, CSh.o73 Sg, CSh.o89 Sg, CSh.o90 Sg, CSh.o91 Sg, CSh.l1 Sg, CSh.l3 Sg, CSh.l27 Sg, CSh.l29 Sg, CSh.l30 Sg, CSh.l56 Sg, CSh.l57 Sg, CSh.l58 Sg, CSh.l75 Sg, CSh.l77 Sg, CSh.l79 Sg, CSh.l81 Sg, CSh.l82 Sg, CSh.l83 Sg, CSh.l84 Sg, CSh.l85 Sg, CSh.l86 Sg, CSh.l87 Sg, CSh.l88 Sg, CSh.l54 Sg, CSh.l55 Sg, CSh.l60 Sg, CSh.l61 Sg, CSh.l64 Sg, CSh.l65 Sg, CSh.l68 Sg, CSh.l69 Sg, CSh.l72 Sg, CSh.l73 Sg, CSh.l90 Sg, CSh.l91 Sg, CSh.p0_0 Sg, CSh.p0_3 Sg, CSh.p0_4 Sg, CSh.p0_5 Sg, CSh.p0_6 Sg, CSh.p0_7 Sg, CSh.p0_8 Sg, CSh.p0_9 Sg, CSh.p0_10 Sg, CSh.p0_14 Sg, CSh.p2_0 Sg, CSh.p26_0 Sg, CSh.p26_13 Sg, CSh.p26_14 Sg, CSh.p31_1 Sg, CSh.p31_3 Sg, CSh.p31_4 Sg, CSh.p62_0 Sg, CSh.p66_0 Sg, CSh.p70_0 Sg, CSh.p74_0 Sg, CSh.p74_1 Sg, CSh.p74_6 Sg, CSh.p74_7 Sg, CSh.p74_10 Sg, CSh.p80_1 Sg, CSh.p80_2 Sg, CSh.p80_3 Sg, CSh.p80_4 Sg, CSh.p80_5 Sg, CSh.p80_6 Sg, CSh.p80_7 Sg, CSh.p80_8 Sg, CSh.p53_1 Sg, CSh.p53_2 Sg, CSh.p59_1 Sg, CSh.p59_2 Sg, CSh.p63_1 Sg, CSh.p63_2 Sg, CSh.p67_1 Sg, CSh.p67_2 Sg, CSh.p71_1 Sg, CSh.p71_2 Sg, CSh.p89_1 Sg, CSh.p89_2 Sg, -Int.reduceToNat, -Int32.reduceToNatClampNeg, il0, il1, il2, il3, il4, il5, il6, il7, il8, il9, il10, il11, il12, il13, il14, il15, il16, il17, il18, il19, il20, il21, il22, il23, il24, il25, il26, il27, il28, il29, il30, il31, il32, il35, il36, il38, il40, il42, il43, il44, il45, il46, il47, il48, il49, il50, il51, il52, il57, il59, il60, il63, il64, il75, il80, il95, il96, il97, il98, il99, il100, il120, il122, il123, il127, il128, il135, il167, il175, il225, il249, il250, il255, il256, il360, il370, il384, il600, il700, il740, il900, il940, il1024, il1600, il4800, il64000, il125000, il262143, il1000000000, iI_toInt, iI_add, iI_sub, iI_mul, iI_neg, iI_lt, iI_le, iI_eq, iI_n, iI_in, iI_div, iI_mod, iI_shm, iI_and1, iI_and7, iI_and63, iI_shr3, iI_shr6, rd_I, ob, Option.some.injEq, exists_eq_left', exists_eq_left, true_and, and_true, fqI, fqJ, eq_self, true_or, or_true, bP_0, bP_0i, npP, bP_1i, bP_b, not_true_eq_false, not_false_eq_true, false_implies, true_implies, implies_true, Classical.not_not, and_self]
        refine ⟨fun u => by omega, fun _ => ?_⟩
        have C := fun (post : AH → Int32 → Prop) => c_onwardFrom (post := post) Sg Hg Lg pg gs fw e L3g r0 r1 hSp hIn w0 (show how ≤ 4 by omega) hh hh'
        rw [pe, qe] at C
        refine C _ ?_
        simp (disch := omega) only [CSh.o0 Sg, CSh.o1 Sg, CSh.o2 Sg, CSh.o3 Sg, CSh.o26 Sg, CSh.o27 Sg, CSh.o29 Sg, CSh.o30 Sg, CSh.o31 Sg, CSh.o56 Sg, CSh.o57 Sg, CSh.o58 Sg, CSh.o62 Sg, CSh.o66 Sg, CSh.o70 Sg, CSh.o74 Sg, CSh.o75 Sg, CSh.o77 Sg, CSh.o79 Sg, CSh.o80 Sg, CSh.o81 Sg, CSh.o82 Sg, CSh.o83 Sg, CSh.o84 Sg, CSh.o85 Sg, CSh.o86 Sg, CSh.o87 Sg, CSh.o88 Sg, CSh.o53 Sg, CSh.o54 Sg, CSh.o55 Sg, CSh.o59 Sg, CSh.o60 Sg, CSh.o61 Sg, CSh.o63 Sg, CSh.o64 Sg, CSh.o65 Sg, CSh.o67 Sg, CSh.o68 Sg, CSh.o69 Sg, CSh.o71 Sg, CSh.o72 Sg, CSh.o73 Sg, CSh.o89 Sg, CSh.o90 Sg, CSh.o91 Sg, CSh.l1 Sg, CSh.l3 Sg, CSh.l27 Sg, CSh.l29 Sg, CSh.l30 Sg, CSh.l56 Sg, CSh.l57 Sg, CSh.l58 Sg, CSh.l75 Sg, CSh.l77 Sg, CSh.l79 Sg, CSh.l81 Sg, CSh.l82 Sg, CSh.l83 Sg, CSh.l84 Sg, CSh.l85 Sg, CSh.l86 Sg, CSh.l87 Sg, CSh.l88 Sg, CSh.l54 Sg, CSh.l55 Sg, CSh.l60 Sg, CSh.l61 Sg, CSh.l64 Sg, CSh.l65 Sg, CSh.l68 Sg, CSh.l69 Sg, CSh.l72 Sg, CSh.l73 Sg, CSh.l90 Sg, CSh.l91 Sg, CSh.p0_0 Sg, CSh.p0_3 Sg, CSh.p0_4 Sg, CSh.p0_5 Sg, CSh.p0_6 Sg, CSh.p0_7 Sg, CSh.p0_8 Sg, CSh.p0_9 Sg, CSh.p0_10 Sg, CSh.p0_14 Sg, CSh.p2_0 Sg, CSh.p26_0 Sg, CSh.p26_13 Sg, CSh.p26_14 Sg, CSh.p31_1 Sg, CSh.p31_3 Sg, CSh.p31_4 Sg, CSh.p62_0 Sg, CSh.p66_0 Sg, CSh.p70_0 Sg, CSh.p74_0 Sg, CSh.p74_1 Sg, CSh.p74_6 Sg, CSh.p74_7 Sg, CSh.p74_10 Sg, CSh.p80_1 Sg, CSh.p80_2 Sg, CSh.p80_3 Sg, CSh.p80_4 Sg, CSh.p80_5 Sg, CSh.p80_6 Sg, CSh.p80_7 Sg, CSh.p80_8 Sg, CSh.p53_1 Sg, CSh.p53_2 Sg, CSh.p59_1 Sg, CSh.p59_2 Sg, CSh.p63_1 Sg, CSh.p63_2 Sg, CSh.p67_1 Sg, CSh.p67_2 Sg, CSh.p71_1 Sg, CSh.p71_2 Sg, CSh.p89_1 Sg, CSh.p89_2 Sg, -Int.reduceToNat, -Int32.reduceToNatClampNeg, il0, il1, il2, il3, il4, il5, il6, il7, il8, il9, il10, il11, il12, il13, il14, il15, il16, il17, il18, il19, il20, il21, il22, il23, il24, il25, il26, il27, il28, il29, il30, il31, il32, il35, il36, il38, il40, il42, il43, il44, il45, il46, il47, il48, il49, il50, il51, il52, il57, il59, il60, il63, il64, il75, il80, il95, il96, il97, il98, il99, il100, il120, il122, il123, il127, il128, il135, il167, il175, il225, il249, il250, il255, il256, il360, il370, il384, il600, il700, il740, il900, il940, il1024, il1600, il4800, il64000, il125000, il262143, il1000000000, iI_toInt, iI_add, iI_sub, iI_mul, iI_neg, iI_lt, iI_le, iI_eq, iI_n, iI_in, iI_div, iI_mod, iI_shm, iI_and1, iI_and7, iI_and63, iI_shr3, iI_shr6, rd_I, ob, Option.some.injEq, exists_eq_left', exists_eq_left, true_and, and_true, fqI, fqJ, eq_self, true_or, or_true, bP_0, bP_0i, npP, bP_1i, bP_b, not_true_eq_false, not_false_eq_true, false_implies, true_implies, implies_true, Classical.not_not, and_self]
        intro g1 w1'
        obtain ⟨f1, r1'⟩ := wI (i := (r * 40 + p) * 5 + how) (by omega) (by omega) (by omega) w1'
        refine nx'' g1 ⟨Fg.trans f1, fun r' p' how' a1 a2 a3 a4 a5 a6 d => ?_⟩
        have cb' := cntB_b gs fw a1 (show r' < 3 by omega)
        rw [r1']
        by_cases cq : r' = r ∧ p' = p ∧ how' = how
        · rw [cq.1, cq.2.1, cq.2.2, show (40 * r + p) * 5 + how = (r * 40 + p) * 5 + how by omega, updT_s, ← e82, hq]
        · rw [updT_n (by omega)]
          exact T r' p' how' a1 a2 a3 a4 a5 a6 (by omega)
      · obtain ⟨Fg, T⟩ := J
        show wb_X0_link_33 (wl_X0_link_2 postV k) (wl_X0_link_20 (wl_X0_link_2 postV k) postV k') (wl_X0_link_33 (wl_X0_link_2 postV k) (wl_X0_link_20 (wl_X0_link_2 postV k) postV k') postV k'') g 80 (iI hr) (iI r) (iI p) (iI 5) postV
        unfold wb_X0_link_33
        refine ⟨fun _ v1 e1 => ?_, fun u => absurd (by decide) u⟩
        rw [e1, show (1 : Int32) = iI 1 from rfl, iI_add]
        exact nx' g ⟨Fg, T.cg fun r' p' how' _ _ _ _ _ d => by omega⟩
    · obtain ⟨Fg, T⟩ := J
      obtain ⟨Sg, Hg, Lg, pg, L3g, e82⟩ := base Fg
      have ec := L3g.cnt r0 (show r < 3 by omega)
      show wb_X0_link_20 (wl_X0_link_2 postV k) (wl_X0_link_20 (wl_X0_link_2 postV k) postV k') g 80 (iI hr) (iI r) (iI (cntB s r)) postV
      unfold wb_X0_link_20
      simp (disch := omega) only [CSh.o0 Sg, CSh.o1 Sg, CSh.o2 Sg, CSh.o3 Sg, CSh.o26 Sg, CSh.o27 Sg, CSh.o29 Sg, CSh.o30 Sg, CSh.o31 Sg, CSh.o56 Sg, CSh.o57 Sg, CSh.o58 Sg, CSh.o62 Sg, CSh.o66 Sg, CSh.o70 Sg, CSh.o74 Sg, CSh.o75 Sg, CSh.o77 Sg, CSh.o79 Sg, CSh.o80 Sg, CSh.o81 Sg, CSh.o82 Sg, CSh.o83 Sg, CSh.o84 Sg, CSh.o85 Sg, CSh.o86 Sg, CSh.o87 Sg, CSh.o88 Sg, CSh.o53 Sg, CSh.o54 Sg, CSh.o55 Sg, CSh.o59 Sg, CSh.o60 Sg, CSh.o61 Sg, CSh.o63 Sg, CSh.o64 Sg, CSh.o65 Sg, CSh.o67 Sg, CSh.o68 Sg, CSh.o69 Sg, CSh.o71 Sg, CSh.o72 Sg, CSh.o73 Sg, CSh.o89 Sg, CSh.o90 Sg, CSh.o91 Sg, CSh.l1 Sg, CSh.l3 Sg, CSh.l27 Sg, CSh.l29 Sg, CSh.l30 Sg, CSh.l56 Sg, CSh.l57 Sg, CSh.l58 Sg, CSh.l75 Sg, CSh.l77 Sg, CSh.l79 Sg, CSh.l81 Sg, CSh.l82 Sg, CSh.l83 Sg, CSh.l84 Sg, CSh.l85 Sg, CSh.l86 Sg, CSh.l87 Sg, CSh.l88 Sg, CSh.l54 Sg, CSh.l55 Sg, CSh.l60 Sg, CSh.l61 Sg, CSh.l64 Sg, CSh.l65 Sg, CSh.l68 Sg, CSh.l69 Sg, CSh.l72 Sg, CSh.l73 Sg, CSh.l90 Sg, CSh.l91 Sg, CSh.p0_0 Sg, CSh.p0_3 Sg, CSh.p0_4 Sg, CSh.p0_5 Sg, CSh.p0_6 Sg, CSh.p0_7 Sg, CSh.p0_8 Sg, CSh.p0_9 Sg, CSh.p0_10 Sg, CSh.p0_14 Sg, CSh.p2_0 Sg, CSh.p26_0 Sg, CSh.p26_13 Sg, CSh.p26_14 Sg, CSh.p31_1 Sg, CSh.p31_3 Sg, CSh.p31_4 Sg, CSh.p62_0 Sg, CSh.p66_0 Sg, CSh.p70_0 Sg, CSh.p74_0 Sg, CSh.p74_1 Sg, CSh.p74_6 Sg, CSh.p74_7 Sg, CSh.p74_10 Sg, CSh.p80_1 Sg, CSh.p80_2 Sg, CSh.p80_3 Sg, CSh.p80_4 Sg, CSh.p80_5 Sg, CSh.p80_6 Sg, CSh.p80_7 Sg, CSh.p80_8 Sg, CSh.p53_1 Sg, CSh.p53_2 Sg, CSh.p59_1 Sg, CSh.p59_2 Sg, CSh.p63_1 Sg, CSh.p63_2 Sg, CSh.p67_1 Sg, CSh.p67_2 Sg, CSh.p71_1 Sg, CSh.p71_2 Sg, CSh.p89_1 Sg, CSh.p89_2 Sg, ec, -Int.reduceToNat, -Int32.reduceToNatClampNeg, il0, il1, il2, il3, il4, il5, il6, il7, il8, il9, il10, il11, il12, il13, il14, il15, il16, il17, il18, il19, il20, il21, il22, il23, il24, il25, il26, il27, il28, il29, il30, il31, il32, il35, il36, il38, il40, il42, il43, il44, il45, il46, il47, il48, il49, il50, il51, il52, il57, il59, il60, il63, il64, il75, il80, il95, il96, il97, il98, il99, il100, il120, il122, il123, il127, il128, il135, il167, il175, il225, il249, il250, il255, il256, il360, il370, il384, il600, il700, il740, il900, il940, il1024, il1600, il4800, il64000, il125000, il262143, il1000000000, iI_toInt, iI_add, iI_sub, iI_mul, iI_neg, iI_lt, iI_le, iI_eq, iI_n, iI_in, iI_div, iI_mod, iI_shm, iI_and1, iI_and7, iI_and63, iI_shr3, iI_shr6, rd_I, ob, Option.some.injEq, exists_eq_left', exists_eq_left, true_and, and_true, fqI, fqJ, eq_self, true_or, or_true, bP_0, bP_0i, npP, bP_1i, bP_b, not_true_eq_false, not_false_eq_true, false_implies, true_implies, implies_true, Classical.not_not, and_self]
      exact ⟨fun _ => nx g ⟨Fg, T.cg fun r' p' how' _ _ pb _ _ d => by
        by_cases cr : r' = r
        · rw [cr] at pb; exact Or.inr ⟨cr, pb⟩
        · exact Or.inl (by omega)⟩, fun u => by omega⟩
  · obtain ⟨Fg, T⟩ := J
    obtain ⟨Sg, Hg, Lg, pg, L3g, e82⟩ := base Fg
    have c5 := Lg.c5
    show wb_X0_link_2 (wl_X0_link_2 postV k) g 80 (iI hr) (iI (s 2)) postV
    unfold wb_X0_link_2
    simp (disch := omega) only [CSh.o0 Sg, CSh.o1 Sg, CSh.o2 Sg, CSh.o3 Sg, CSh.o26 Sg, CSh.o27 Sg, CSh.o29 Sg, CSh.o30 Sg, CSh.o31 Sg, CSh.o56 Sg, CSh.o57 Sg, CSh.o58 Sg, CSh.o62 Sg, CSh.o66 Sg, CSh.o70 Sg, CSh.o74 Sg, CSh.o75 Sg, CSh.o77 Sg, CSh.o79 Sg, CSh.o80 Sg, CSh.o81 Sg, CSh.o82 Sg, CSh.o83 Sg, CSh.o84 Sg, CSh.o85 Sg, CSh.o86 Sg, CSh.o87 Sg, CSh.o88 Sg, CSh.o53 Sg, CSh.o54 Sg, CSh.o55 Sg, CSh.o59 Sg, CSh.o60 Sg, CSh.o61 Sg, CSh.o63 Sg, CSh.o64 Sg, CSh.o65 Sg, CSh.o67 Sg, CSh.o68 Sg, CSh.o69 Sg, CSh.o71 Sg, CSh.o72 Sg, CSh.o73 Sg, CSh.o89 Sg, CSh.o90 Sg, CSh.o91 Sg, CSh.l1 Sg, CSh.l3 Sg, CSh.l27 Sg, CSh.l29 Sg, CSh.l30 Sg, CSh.l56 Sg, CSh.l57 Sg, CSh.l58 Sg, CSh.l75 Sg, CSh.l77 Sg, CSh.l79 Sg, CSh.l81 Sg, CSh.l82 Sg, CSh.l83 Sg, CSh.l84 Sg, CSh.l85 Sg, CSh.l86 Sg, CSh.l87 Sg, CSh.l88 Sg, CSh.l54 Sg, CSh.l55 Sg, CSh.l60 Sg, CSh.l61 Sg, CSh.l64 Sg, CSh.l65 Sg, CSh.l68 Sg, CSh.l69 Sg, CSh.l72 Sg, CSh.l73 Sg, CSh.l90 Sg, CSh.l91 Sg, CSh.p0_0 Sg, CSh.p0_3 Sg, CSh.p0_4 Sg, CSh.p0_5 Sg, CSh.p0_6 Sg, CSh.p0_7 Sg, CSh.p0_8 Sg, CSh.p0_9 Sg, CSh.p0_10 Sg, CSh.p0_14 Sg, CSh.p2_0 Sg, CSh.p26_0 Sg, CSh.p26_13 Sg, CSh.p26_14 Sg, CSh.p31_1 Sg, CSh.p31_3 Sg, CSh.p31_4 Sg, CSh.p62_0 Sg, CSh.p66_0 Sg, CSh.p70_0 Sg, CSh.p74_0 Sg, CSh.p74_1 Sg, CSh.p74_6 Sg, CSh.p74_7 Sg, CSh.p74_10 Sg, CSh.p80_1 Sg, CSh.p80_2 Sg, CSh.p80_3 Sg, CSh.p80_4 Sg, CSh.p80_5 Sg, CSh.p80_6 Sg, CSh.p80_7 Sg, CSh.p80_8 Sg, CSh.p53_1 Sg, CSh.p53_2 Sg, CSh.p59_1 Sg, CSh.p59_2 Sg, CSh.p63_1 Sg, CSh.p63_2 Sg, CSh.p67_1 Sg, CSh.p67_2 Sg, CSh.p71_1 Sg, CSh.p71_2 Sg, CSh.p89_1 Sg, CSh.p89_2 Sg, pg, LB.o0 Hg, fd0, fd1, fd2, fd3, fd4, fd5, fd6, fd7, fd8, fd9, fd10, fd11, fd12, fd13, fd14, fd15, fd16, fd17, fd18, fd19, fd20, fd21, fd22, fd23, fd24, fd25, fd26, fd27, fd28, fd29, fd30, fd31, fd32, fd33, fd34, fd35, fd36, fd37, fd38, fd39, fd40, fd41, fd42, fd43, fd44, fd45, fd46, fd47, fd48, fd49, fd50, fd51, fd52, c5, -Int.reduceToNat, -Int32.reduceToNatClampNeg, il0, il1, il2, il3, il4, il5, il6, il7, il8, il9, il10, il11, il12, il13, il14, il15, il16, il17, il18, il19, il20, il21, il22, il23, il24, il25, il26, il27, il28, il29, il30, il31, il32, il35, il36, il38, il40, il42, il43, il44, il45, il46, il47, il48, il49, il50, il51, il52, il57, il59, il60, il63, il64, il75, il80, il95, il96, il97, il98, il99, il100, il120, il122, il123, il127, il128, il135, il167, il175, il225, il249, il250, il255, il256, il360, il370, il384, il600, il700, il740, il900, il940, il1024, il1600, il4800, il64000, il125000, il262143, il1000000000, iI_toInt, iI_add, iI_sub, iI_mul, iI_neg, iI_lt, iI_le, iI_eq, iI_n, iI_in, iI_div, iI_mod, iI_shm, iI_and1, iI_and7, iI_and63, iI_shr3, iI_shr6, rd_I, ob, Option.some.injEq, exists_eq_left', exists_eq_left, true_and, and_true, fqI, fqJ, eq_self, true_or, or_true, bP_0, bP_0i, npP, bP_1i, bP_b, not_true_eq_false, not_false_eq_true, false_implies, true_implies, implies_true, Classical.not_not, and_self]
    exact ⟨fun _ => fin g Fg T, fun u => by omega⟩
end LNK
