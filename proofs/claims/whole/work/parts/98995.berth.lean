/-! where RAFTS can lie, numbered -/
def hdB (s : Int → Int) (r sp : Int) : Prop := sp % 8 + wsp s r sp ≤ s 0 ∧ sp / 8 % 8 + hsp s r sp ≤ s 1
def ltB (s : Int → Int) (r : Int) : Int := if s (99 + 3 * r) = s (99 + 3 * r + 1) then 64 else 128
noncomputable def nmB (s : Int → Int) (r sp : Int) : Int := foldI (fun q n => iteP (hdB s r q) (n + 1) n) sp.toNat 0 0
def cntN (a b w h : Nat) : Nat → Nat
  | 0 => 0
  | n + 1 => cntN a b w h n + (if n % 8 + (if 64 ≤ n then h else w) ≤ a ∧ n / 8 % 8 + (if 64 ≤ n then w else h) ≤ b then 1 else 0)
def cntA : Bool := (List.range 9).all fun a => (List.range 9).all fun b => (List.range 4).all fun w => (List.range 4).all fun h => decide (25 < a * b) || decide (w < 1) || decide (h < 1) || decide (cntN a b w h (if w = h then 64 else 128) ≤ 40)
theorem cntA_t : cntA = true := by decide +kernel
theorem cnt40 (a : Nat) (ha : a < 9) (b : Nat) (hb : b < 9) (hab : a * b ≤ 25) (w : Nat) (hw : w < 4) (h : Nat) (hh : h < 4) (w1 : 1 ≤ w) (h1 : 1 ≤ h) : cntN a b w h (if w = h then 64 else 128) ≤ 40 := by
  have T := cntA_t
  unfold cntA at T
  have T1 := List.all_eq_true.mp T a (List.mem_range.mpr ha)
  have T2 := List.all_eq_true.mp T1 b (List.mem_range.mpr hb)
  have T3 := List.all_eq_true.mp T2 w (List.mem_range.mpr hw)
  have T4 := List.all_eq_true.mp T3 h (List.mem_range.mpr hh)
  simp only [Bool.or_eq_true, decide_eq_true_eq] at T4
  omega
/-- few RAFTS, few CELLS -/
def few (s : Int → Int) : Prop := s 2 ≤ 3 ∧ s 0 * s 1 ≤ 25
section BER
variable {h h1 h2 h' h0 g0 : AH} {qa0 qa ac la : Nat} {postV : AH → Prop} {post : AH → Int32 → Prop} {a b c d f i j k t' v w x y pl r hr how goal st u sp sq q : Int} {s t z X F B : Int → Int} {S : BS} {zz : Int64}
theorem nmB_0 : nmB s r 0 = 0 := rfl
theorem nmB_s (h0 : 0 ≤ sp) : nmB s r (sp + 1) = iteP (hdB s r sp) (nmB s r sp + 1) (nmB s r sp) := by
  unfold nmB
  rw [show (sp + 1).toNat = sp.toNat + 1 by omega, foldI_snoc, show (0 : Int) + (sp.toNat : Int) = sp by omega]
theorem nmB_step (h0 : 0 ≤ sp) : nmB s r sp ≤ nmB s r (sp + 1) ∧ nmB s r (sp + 1) ≤ nmB s r sp + 1 := by
  rw [nmB_s h0]
  by_cases c : hdB s r sp
  · rw [ite_t c]; omega
  · rw [ite_f c]; omega
theorem nmB_mono (h0 : 0 ≤ sp) : ∀ d : Nat, nmB s r sp ≤ nmB s r (sp + d) := by
  intro d
  induction d with
  | zero => rw [show sp + ((0 : Nat) : Int) = sp by omega]; omega
  | succ d ih =>
    have := (nmB_step (s := s) (r := r) (sp := sp + d) (by omega)).1
    rw [show sp + ((d + 1 : Nat) : Int) = sp + d + 1 by omega]
    omega
theorem nmB_le (h0 : 0 ≤ sp) (h1 : sp ≤ sq) : nmB s r sp ≤ nmB s r sq := by
  have := nmB_mono (s := s) (r := r) h0 (sq - sp).toNat
  rw [show sp + ((sq - sp).toNat : Int) = sq by omega] at this
  exact this
theorem nmB_lt (h0 : 0 ≤ sp) (h1 : sp < sq) (hd : hdB s r sp) : nmB s r sp < nmB s r sq := by
  have e := nmB_s (s := s) (r := r) h0
  rw [ite_t hd] at e
  have := nmB_le (s := s) (r := r) (sp := sp + 1) (sq := sq) (by omega) (by omega)
  omega
theorem nmB_nn (h0 : 0 ≤ sp) : 0 ≤ nmB s r sp := by
  have := nmB_le (s := s) (r := r) (sp := 0) (sq := sp) (by omega) h0
  rw [nmB_0] at this
  exact this
theorem nmB_inj (h0 : 0 ≤ sp) (h1 : 0 ≤ sq) (d1 : hdB s r sp) (d2 : hdB s r sq) (e : nmB s r sp = nmB s r sq) : sp = sq := by
  by_cases c1 : sp < sq
  · have := nmB_lt h0 c1 d1; omega
  · by_cases c2 : sq < sp
    · have := nmB_lt h1 c2 d2; omega
    · omega
theorem nmB_cnt (s0 : 0 ≤ s 0) (s1 : 0 ≤ s 1) (sw : 0 ≤ s (99 + 3 * r)) (sh : 0 ≤ s (99 + 3 * r + 1)) : ∀ n : Nat, nmB s r n = cntN (s 0).toNat (s 1).toNat (s (99 + 3 * r)).toNat (s (99 + 3 * r + 1)).toNat n := by
  intro n
  induction n with
  | zero => rfl
  | succ n ih =>
    have e := nmB_s (s := s) (r := r) (sp := n) (by omega)
    rw [show ((n + 1 : Nat) : Int) = (n : Int) + 1 by omega, e, cntN]
    have eq' : hdB s r n ↔ (n % 8 + (if 64 ≤ n then (s (99 + 3 * r + 1)).toNat else (s (99 + 3 * r)).toNat) ≤ (s 0).toNat ∧ n / 8 % 8 + (if 64 ≤ n then (s (99 + 3 * r)).toNat else (s (99 + 3 * r + 1)).toNat) ≤ (s 1).toNat) := by
      unfold hdB wsp hsp
      by_cases c : 64 ≤ n
      · rw [if_pos (by omega : (64 : Int) ≤ (n : Int)), if_pos (by omega : (64 : Int) ≤ (n : Int)), if_pos c, if_pos c]; omega
      · rw [if_neg (by omega : ¬ (64 : Int) ≤ (n : Int)), if_neg (by omega : ¬ (64 : Int) ≤ (n : Int)), if_neg c, if_neg c]; omega
    by_cases c : hdB s r n
    · rw [ite_t c, if_pos (eq'.mp c), ih]; omega
    · rw [ite_f c, if_neg (fun u => c (eq'.mpr u)), ih]; omega
theorem nmB_40 (gs : GS s) (fw : few s) (h1 : 0 ≤ r) (h2 : r < s 2) : nmB s r (ltB s r) ≤ 40 := by
  obtain ⟨⟨hS, n0, n1, n2, _⟩, hD, _⟩ := gs
  have a0 := (hS 0 (by omega) (by omega)).1
  have a1 := (hS 1 (by omega) (by omega)).1
  have d := (hD.2.2 r h1 h2).1
  have dw := d.1
  have dh := d.2
  have := cnt40 (s 0).toNat (by omega) (s 1).toNat (by omega) (by
    have e : ((s 0).toNat * (s 1).toNat : Nat) = ((s 0 * s 1).toNat) := by
      apply Int.ofNat.inj
      show (((s 0).toNat * (s 1).toNat : Nat) : Int) = ((s 0 * s 1).toNat : Int)
      rw [Int.natCast_mul, Int.toNat_of_nonneg a0, Int.toNat_of_nonneg a1, Int.toNat_of_nonneg (Int.mul_nonneg a0 a1)]
    rw [e]
    have := fw.2
    omega) (s (99 + 3 * r)).toNat (by omega) (s (99 + 3 * r + 1)).toNat (by omega) (by omega) (by omega)
  unfold ltB
  by_cases c : s (99 + 3 * r) = s (99 + 3 * r + 1)
  · rw [if_pos c]
    rw [if_pos (by rw [c])] at this
    have e := nmB_cnt (s := s) (r := r) a0 a1 (by omega) (by omega) 64
    have e : nmB s r 64 = _ := e
    rw [e]; omega
  · rw [if_neg c]
    rw [if_neg (by omega)] at this
    have e := nmB_cnt (s := s) (r := r) a0 a1 (by omega) (by omega) 128
    have e : nmB s r 128 = _ := e
    rw [e]; omega
/-- of RAFT r: all SPOTS below sp are listed -/
def BLx (h : AH) (s : Int → Int) (r sp : Int) : Prop := (rd h 81 r = nmB s r sp) ∧ (∀ q, 0 ≤ q → q < sp → hdB s r q → rd h 82 (40 * r + nmB s r q) = q) ∧ (∀ q, 0 ≤ q → q < sp → hdB s r q → rd h 84 (128 * r + q) = nmB s r q) ∧ (∀ q, 0 ≤ q → q < sp → hdB s r q → aJ h 83 (40 * r + nmB s r q).toNat = cvZ (wsp s r q) (hsp s r q) (q % 64))
theorem BLx.cn {h : AH} {s : Int → Int} {r sp : Int} (R : BLx h s r sp) : rd h 81 r = nmB s r sp := R.1
theorem BLx.ss {h : AH} {s : Int → Int} {r sp : Int} (R : BLx h s r sp) : ∀ q, 0 ≤ q → q < sp → hdB s r q → rd h 82 (40 * r + nmB s r q) = q := R.2.1
theorem BLx.nn {h : AH} {s : Int → Int} {r sp : Int} (R : BLx h s r sp) : ∀ q, 0 ≤ q → q < sp → hdB s r q → rd h 84 (128 * r + q) = nmB s r q := R.2.2.1
theorem BLx.cv {h : AH} {s : Int → Int} {r sp : Int} (R : BLx h s r sp) : ∀ q, 0 ≤ q → q < sp → hdB s r q → aJ h 83 (40 * r + nmB s r q).toNat = cvZ (wsp s r q) (hsp s r q) (q % 64) := R.2.2.2
theorem ltB_b : 64 ≤ ltB s r ∧ ltB s r ≤ 128 := by unfold ltB; split <;> omega
/-- .. and nothing else is touched -/
def oth (h h' : AH) (r : Int) : Prop := (∀ j, j ≠ r → rd h' 81 j = rd h 81 j) ∧ (∀ j, j < 40 * r ∨ 40 * r + 40 ≤ j → rd h' 82 j = rd h 82 j) ∧ (∀ j, j < 128 * r ∨ 128 * r + 128 ≤ j → rd h' 84 j = rd h 84 j) ∧ ∀ j : Int, 0 ≤ j → j < 40 * r ∨ 40 * r + 40 ≤ j → aJ h' 83 j.toNat = aJ h 83 j.toNat
theorem oth.trans (u : oth h h1 r) (v : oth h1 h2 r) : oth h h2 r := ⟨fun j hj => (v.1 j hj).trans (u.1 j hj), fun j hj => (v.2.1 j hj).trans (u.2.1 j hj), fun j hj => (v.2.2.1 j hj).trans (u.2.2.1 j hj), fun j j0 hj => (v.2.2.2 j j0 hj).trans (u.2.2.2 j j0 hj)⟩
theorem oth.refl (h : AH) : oth h h r := ⟨fun _ _ => rfl, fun _ _ => rfl, fun _ _ => rfl, fun _ _ _ => rfl⟩
theorem c_listOf (S : CSh h) (H : LB h la) (L : LR h la s) (hl : la = 5 ∨ la = 32) (p0 : aP h 80 0 = some la) (gs : GS s) (fw : few s) (h1 : 0 ≤ r) (h2 : r < s 2) (hc : rd h 81 r = 0) (K : ∀ h', Fr [81, 82, 84] [83] [] h h' → BLx h' s r (ltB s r) → oth h h' r → postV h') : wp_X0_listOf h 80 (iI r) postV := by
  have n2 : s 2 ≤ 8 := gs.1.2.2.2.1
  have hS := gs.1.1
  have hD := gs.2.1
  have r3 : r < 3 := by have := fw.1; omega
  have d := (hD.2.2 r h1 h2).1
  have c40 := nmB_40 gs fw h1 h2
  have lb := ltB_b (s := s) (r := r)
  have main : ∃ k, wl_X0_listOf_32 postV k h 80 (iI r) (iI (ltB s r)) (iI 0) := by
    refine lf_for (W := fun k (b : AH) i => wl_X0_listOf_32 postV k b 80 (iI r) (iI (ltB s r)) (iI i)) (lo := 0) (hi := ltB s r) (fun i b => Fr [81, 82, 84] [83] [] h b ∧ BLx b s r i ∧ oth h b r) (by omega) (fun k b sp i0 i1 J nx => ?_) (fun k b J => ?_) h ⟨(Fr.refl h).mono (by simp) (by simp) (by simp), ⟨by rw [nmB_0]; exact hc, fun q q0 q1 => by omega, fun q q0 q1 => by omega, fun q q0 q1 => by omega⟩, oth.refl h⟩
    · obtain ⟨Fb, J, O⟩ := J
      show wb_X0_listOf_32 (wl_X0_listOf_32 postV k) b 80 (iI r) (iI (ltB s r)) (iI sp) postV
      have Sb := S.gr Fb.gr
      have Hb : LB b la := H.gr Fb.gr (by omega)
      have Lb : LR b la s := L.fr Fb (fun j hj => by simp; omega) (fun j hj => by simp; omega)
      have pb : aP b 80 0 = some la := by rw [Fb.aPe]; exact p0
      have cn := J.cn
      have nn := nmB_nn (s := s) (r := r) i0
      have nb := nmB_le (s := s) (r := r) (sp := sp) (sq := ltB s r) i0 (by omega)
      unfold wb_X0_listOf_32 wb_X0_listOf_125
      simp (disch := omega) only [CSh.o0 Sb, CSh.o1 Sb, CSh.o2 Sb, CSh.o3 Sb, CSh.o26 Sb, CSh.o27 Sb, CSh.o29 Sb, CSh.o30 Sb, CSh.o31 Sb, CSh.o56 Sb, CSh.o57 Sb, CSh.o58 Sb, CSh.o62 Sb, CSh.o66 Sb, CSh.o70 Sb, CSh.o74 Sb, CSh.o75 Sb, CSh.o77 Sb, CSh.o79 Sb, CSh.o80 Sb, CSh.o81 Sb, CSh.o82 Sb, CSh.o83 Sb, CSh.o84 Sb, CSh.o85 Sb, CSh.o86 Sb, CSh.o87 Sb, CSh.o88 Sb, CSh.o53 Sb, CSh.o54 Sb, CSh.o55 Sb, CSh.o59 Sb, CSh.o60 Sb, CSh.o61 Sb, CSh.o63 Sb, CSh.o64 Sb, CSh.o65 Sb, CSh.o67 Sb, CSh.o68 Sb, CSh.o69 Sb, CSh.o71 Sb, CSh.o72 Sb, CSh.o73 Sb, CSh.o89 Sb, CSh.o90 Sb, CSh.o91 Sb, CSh.l1 Sb, CSh.l3 Sb, CSh.l27 Sb, CSh.l29 Sb, CSh.l30 Sb, CSh.l56 Sb, CSh.l57 Sb, CSh.l58 Sb, CSh.l75 Sb, CSh.l77 Sb, CSh.l79 Sb, CSh.l81 Sb, CSh.l82 Sb, CSh.l83 Sb, CSh.l84 Sb, CSh.l85 Sb, CSh.l86 Sb, CSh.l87 Sb, CSh.l88 Sb, CSh.l54 Sb, CSh.l55 Sb, CSh.l60 Sb, CSh.l61 Sb, CSh.l64 Sb, CSh.l65 Sb, CSh.l68 Sb, CSh.l69 Sb, CSh.l72 Sb, CSh.l73 Sb, CSh.l90 Sb, CSh.l91 Sb, CSh.p0_0 Sb, CSh.p0_3 Sb, CSh.p0_4 Sb, CSh.p0_5 Sb, CSh.p0_6 Sb, CSh.p0_7 Sb, CSh.p0_8 Sb, CSh.p0_9 Sb, CSh.p0_10 Sb, CSh.p0_14 Sb, CSh.p2_0 Sb, CSh.p26_0 Sb, CSh.p26_13 Sb, CSh.p26_14 Sb, CSh.p31_1 Sb, CSh.p31_3 Sb, CSh.p31_4 Sb, CSh.p62_0 Sb, CSh.p66_0 Sb, CSh.p70_0 Sb, CSh.p74_0 Sb, CSh.p74_1 Sb, CSh.p74_6 Sb, CSh.p74_7 Sb, CSh.p74_10 Sb, CSh.p80_1 Sb, CSh.p80_2 Sb, CSh.p80_3 Sb, CSh.p80_4 Sb, CSh.p80_5 Sb, CSh.p80_6 Sb, CSh.p80_7 Sb, CSh.p80_8 Sb, CSh.p53_1 Sb, CSh.p53_2 Sb, CSh.p59_1 Sb, CSh.p59_2 Sb, CSh.p63_1 Sb, CSh.p63_2 Sb, CSh.p67_1 Sb, CSh.p67_2 Sb, CSh.p71_1 Sb, CSh.p71_2 Sb, CSh.p89_1 Sb, CSh.p89_2 Sb, pb, LB.o0 Hb, c_holds Hb Lb hS hD h1 h2 n2, -Int.reduceToNat, -Int32.reduceToNatClampNeg, il0, il1, il2, il3, il4, il5, il6, il7, il8, il9, il10, il11, il12, il13, il14, il15, il16, il17, il18, il19, il20, il21, il22, il23, il24, il25, il26, il27, il28, il29, il30, il31, il32, il35, il36, il38, il40, il42, il43, il44, il45, il46, il47, il48, il49, il50, il51, il52, il57, il59, il60, il63, il64, il75, il80, il95, il96, il97, il98, il99, il100, il120, il122, il123, il127, il128, il135, il167, il175, il225, il249, il250, il255, il256, il360, il370, il384, il600, il700, il740, il900, il940, il1024, il1600, il4800, il64000, il125000, il262143, il1000000000, iI_toInt, iI_add, iI_sub, iI_mul, iI_neg, iI_lt, iI_le, iI_eq, iI_n, iI_in, iI_div, iI_mod, iI_shm, iI_and1, iI_and7, iI_and63, iI_shr3, iI_shr6, rd_I, ob, Option.some.injEq, exists_eq_left', exists_eq_left, true_and, and_true, fqI, fqJ, eq_self, true_or, or_true, bP_0, bP_0i, npP, bP_1i, bP_b, not_true_eq_false, not_false_eq_true, false_implies, true_implies, implies_true, Classical.not_not, and_self]
      refine ⟨fun u => by omega, fun _ => ⟨fun nh => ?_, fun hd => ?_⟩⟩
      · have e := nmB_s (s := s) (r := r) i0
        rw [ite_f (show ¬ hdB s r sp from nh)] at e
        refine nx b ⟨Fb, ⟨by rw [e]; exact cn, fun q q0 q1 qd => ?_, fun q q0 q1 qd => ?_, fun q q0 q1 qd => ?_⟩, O⟩
        · by_cases cq : q = sp
          · rw [cq] at qd; exact absurd qd nh
          · exact J.ss q q0 (by omega) qd
        · by_cases cq : q = sp
          · rw [cq] at qd; exact absurd qd nh
          · exact J.nn q q0 (by omega) qd
        · by_cases cq : q = sp
          · rw [cq] at qd; exact absurd qd nh
          · exact J.cv q q0 (by omega) qd
      · have hd : hdB s r sp := hd
        have e := nmB_s (s := s) (r := r) i0
        rw [ite_t hd] at e
        have nlt := nmB_lt (s := s) (r := r) (sp := sp) (sq := ltB s r) i0 (by omega) hd
        simp (disch := omega) only [CSh.o0 Sb, CSh.o1 Sb, CSh.o2 Sb, CSh.o3 Sb, CSh.o26 Sb, CSh.o27 Sb, CSh.o29 Sb, CSh.o30 Sb, CSh.o31 Sb, CSh.o56 Sb, CSh.o57 Sb, CSh.o58 Sb, CSh.o62 Sb, CSh.o66 Sb, CSh.o70 Sb, CSh.o74 Sb, CSh.o75 Sb, CSh.o77 Sb, CSh.o79 Sb, CSh.o80 Sb, CSh.o81 Sb, CSh.o82 Sb, CSh.o83 Sb, CSh.o84 Sb, CSh.o85 Sb, CSh.o86 Sb, CSh.o87 Sb, CSh.o88 Sb, CSh.o53 Sb, CSh.o54 Sb, CSh.o55 Sb, CSh.o59 Sb, CSh.o60 Sb, CSh.o61 Sb, CSh.o63 Sb, CSh.o64 Sb, CSh.o65 Sb, CSh.o67 Sb, CSh.o68 Sb, CSh.o69 Sb, CSh.o71 Sb, CSh.o72 Sb, CSh.o73 Sb, CSh.o89 Sb, CSh.o90 Sb, CSh.o91 Sb, CSh.l1 Sb, CSh.l3 Sb, CSh.l27 Sb, CSh.l29 Sb, CSh.l30 Sb, CSh.l56 Sb, CSh.l57 Sb, CSh.l58 Sb, CSh.l75 Sb, CSh.l77 Sb, CSh.l79 Sb, CSh.l81 Sb, CSh.l82 Sb, CSh.l83 Sb, CSh.l84 Sb, CSh.l85 Sb, CSh.l86 Sb, CSh.l87 Sb, CSh.l88 Sb, CSh.l54 Sb, CSh.l55 Sb, CSh.l60 Sb, CSh.l61 Sb, CSh.l64 Sb, CSh.l65 Sb, CSh.l68 Sb, CSh.l69 Sb, CSh.l72 Sb, CSh.l73 Sb, CSh.l90 Sb, CSh.l91 Sb, CSh.p0_0 Sb, CSh.p0_3 Sb, CSh.p0_4 Sb, CSh.p0_5 Sb, CSh.p0_6 Sb, CSh.p0_7 Sb, CSh.p0_8 Sb, CSh.p0_9 Sb, CSh.p0_10 Sb, CSh.p0_14 Sb, CSh.p2_0 Sb, CSh.p26_0 Sb, CSh.p26_13 Sb, CSh.p26_14 Sb, CSh.p31_1 Sb, CSh.p31_3 Sb, CSh.p31_4 Sb, CSh.p62_0 Sb, CSh.p66_0 Sb, CSh.p70_0 Sb, CSh.p74_0 Sb, CSh.p74_1 Sb, CSh.p74_6 Sb, CSh.p74_7 Sb, CSh.p74_10 Sb, CSh.p80_1 Sb, CSh.p80_2 Sb, CSh.p80_3 Sb, CSh.p80_4 Sb, CSh.p80_5 Sb, CSh.p80_6 Sb, CSh.p80_7 Sb, CSh.p80_8 Sb, CSh.p53_1 Sb, CSh.p53_2 Sb, CSh.p59_1 Sb, CSh.p59_2 Sb, CSh.p63_1 Sb, CSh.p63_2 Sb, CSh.p67_1 Sb, CSh.p67_2 Sb, CSh.p71_1 Sb, CSh.p71_2 Sb, CSh.p89_1 Sb, CSh.p89_2 Sb, cn, -Int.reduceToNat, -Int32.reduceToNatClampNeg, il0, il1, il2, il3, il4, il5, il6, il7, il8, il9, il10, il11, il12, il13, il14, il15, il16, il17, il18, il19, il20, il21, il22, il23, il24, il25, il26, il27, il28, il29, il30, il31, il32, il35, il36, il38, il40, il42, il43, il44, il45, il46, il47, il48, il49, il50, il51, il52, il57, il59, il60, il63, il64, il75, il80, il95, il96, il97, il98, il99, il100, il120, il122, il123, il127, il128, il135, il167, il175, il225, il249, il250, il255, il256, il360, il370, il384, il600, il700, il740, il900, il940, il1024, il1600, il4800, il64000, il125000, il262143, il1000000000, iI_toInt, iI_add, iI_sub, iI_mul, iI_neg, iI_lt, iI_le, iI_eq, iI_n, iI_in, iI_div, iI_mod, iI_shm, iI_and1, iI_and7, iI_and63, iI_shr3, iI_shr6, rd_I, ob, Option.some.injEq, exists_eq_left', exists_eq_left, true_and, and_true, fqI, fqJ, eq_self, true_or, or_true, bP_0, bP_0i, npP, bP_1i, bP_b, not_true_eq_false, not_false_eq_true, false_implies, true_implies, implies_true, Classical.not_not, and_self]
        refine ⟨fun u => by omega, fun _ => ?_⟩
        intro g1 w1
        obtain ⟨f1, r1⟩ := wI (i := r * 40 + nmB s r sp) (by omega) (by omega) (by omega) w1
        have S1 := Sb.gr f1.gr
        have H1 : LB g1 la := Hb.gr f1.gr (by omega)
        have L1 : LR g1 la s := Lb.fr f1 (fun j hj => by simp; omega) (fun j hj => by simp)
        have p1 : aP g1 80 0 = some la := by rw [f1.aPe]; exact pb
        simp (disch := omega) only [CSh.o0 S1, CSh.o1 S1, CSh.o2 S1, CSh.o3 S1, CSh.o26 S1, CSh.o27 S1, CSh.o29 S1, CSh.o30 S1, CSh.o31 S1, CSh.o56 S1, CSh.o57 S1, CSh.o58 S1, CSh.o62 S1, CSh.o66 S1, CSh.o70 S1, CSh.o74 S1, CSh.o75 S1, CSh.o77 S1, CSh.o79 S1, CSh.o80 S1, CSh.o81 S1, CSh.o82 S1, CSh.o83 S1, CSh.o84 S1, CSh.o85 S1, CSh.o86 S1, CSh.o87 S1, CSh.o88 S1, CSh.o53 S1, CSh.o54 S1, CSh.o55 S1, CSh.o59 S1, CSh.o60 S1, CSh.o61 S1, CSh.o63 S1, CSh.o64 S1, CSh.o65 S1, CSh.o67 S1, CSh.o68 S1, CSh.o69 S1, CSh.o71 S1, CSh.o72 S1, CSh.o73 S1, CSh.o89 S1, CSh.o90 S1, CSh.o91 S1, CSh.l1 S1, CSh.l3 S1, CSh.l27 S1, CSh.l29 S1, CSh.l30 S1, CSh.l56 S1, CSh.l57 S1, CSh.l58 S1, CSh.l75 S1, CSh.l77 S1, CSh.l79 S1, CSh.l81 S1, CSh.l82 S1, CSh.l83 S1, CSh.l84 S1, CSh.l85 S1, CSh.l86 S1, CSh.l87 S1, CSh.l88 S1, CSh.l54 S1, CSh.l55 S1, CSh.l60 S1, CSh.l61 S1, CSh.l64 S1, CSh.l65 S1, CSh.l68 S1, CSh.l69 S1, CSh.l72 S1, CSh.l73 S1, CSh.l90 S1, CSh.l91 S1, CSh.p0_0 S1, CSh.p0_3 S1, CSh.p0_4 S1, CSh.p0_5 S1, CSh.p0_6 S1, CSh.p0_7 S1, CSh.p0_8 S1, CSh.p0_9 S1, CSh.p0_10 S1, CSh.p0_14 S1, CSh.p2_0 S1, CSh.p26_0 S1, CSh.p26_13 S1, CSh.p26_14 S1, CSh.p31_1 S1, CSh.p31_3 S1, CSh.p31_4 S1, CSh.p62_0 S1, CSh.p66_0 S1, CSh.p70_0 S1, CSh.p74_0 S1, CSh.p74_1 S1, CSh.p74_6 S1, CSh.p74_7 S1, CSh.p74_10 S1, CSh.p80_1 S1, CSh.p80_2 S1, CSh.p80_3 S1, CSh.p80_4 S1, CSh.p80_5 S1, CSh.p80_6 S1, CSh.p80_7 S1, CSh.p80_8 S1, CSh.p53_1 S1, CSh.p53_2 S1, CSh.p59_1 S1, CSh.p59_2 S1, CSh.p63_1 S1, CSh.p63_2 S1, CSh.p67_1 S1, CSh.p67_2 S1, CSh.p71_1 S1, CSh.p71_2 S1, CSh.p89_1 S1, CSh.p89_2 S1, p1, LB.o0 H1, c_coverAt H1 L1 hD h1 h2 n2, -Int.reduceToNat, -Int32.reduceToNatClampNeg, il0, il1, il2, il3, il4, il5, il6, il7, il8, il9, il10, il11, il12, il13, il14, il15, il16, il17, il18, il19, il20, il21, il22, il23, il24, il25, il26, il27, il28, il29, il30, il31, il32, il35, il36, il38, il40, il42, il43, il44, il45, il46, il47, il48, il49, il50, il51, il52, il57, il59, il60, il63, il64, il75, il80, il95, il96, il97, il98, il99, il100, il120, il122, il123, il127, il128, il135, il167, il175, il225, il249, il250, il255, il256, il360, il370, il384, il600, il700, il740, il900, il940, il1024, il1600, il4800, il64000, il125000, il262143, il1000000000, iI_toInt, iI_add, iI_sub, iI_mul, iI_neg, iI_lt, iI_le, iI_eq, iI_n, iI_in, iI_div, iI_mod, iI_shm, iI_and1, iI_and7, iI_and63, iI_shr3, iI_shr6, rd_I, ob, Option.some.injEq, exists_eq_left', exists_eq_left, true_and, and_true, fqI, fqJ, eq_self, true_or, or_true, bP_0, bP_0i, npP, bP_1i, bP_b, not_true_eq_false, not_false_eq_true, false_implies, true_implies, implies_true, Classical.not_not, and_self]
        intro g2 w2
        have f2 : Fr [] [83] [] g1 g2 := by rw [w2]; exact fr_hJ
        have j2 : ∀ j : Nat, aJ g2 83 j = if j = (r * 40 + nmB s r sp).toNat then cvZ (wsp s r sp) (hsp s r sp) (sp % 64) else aJ g1 83 j := fun j => by rw [w2, aJ_hJ]
        have S2 := S1.gr f2.gr
        have c2 : rd g2 81 r = nmB s r sp := by rw [f2.row (by simp), f1.row (by simp)]; exact cn
        simp (disch := omega) only [CSh.o0 S2, CSh.o1 S2, CSh.o2 S2, CSh.o3 S2, CSh.o26 S2, CSh.o27 S2, CSh.o29 S2, CSh.o30 S2, CSh.o31 S2, CSh.o56 S2, CSh.o57 S2, CSh.o58 S2, CSh.o62 S2, CSh.o66 S2, CSh.o70 S2, CSh.o74 S2, CSh.o75 S2, CSh.o77 S2, CSh.o79 S2, CSh.o80 S2, CSh.o81 S2, CSh.o82 S2, CSh.o83 S2, CSh.o84 S2, CSh.o85 S2, CSh.o86 S2, CSh.o87 S2, CSh.o88 S2, CSh.o53 S2, CSh.o54 S2, CSh.o55 S2, CSh.o59 S2, CSh.o60 S2, CSh.o61 S2, CSh.o63 S2, CSh.o64 S2, CSh.o65 S2, CSh.o67 S2, CSh.o68 S2, CSh.o69 S2, CSh.o71 S2, CSh.o72 S2, CSh.o73 S2, CSh.o89 S2, CSh.o90 S2, CSh.o91 S2, CSh.l1 S2, CSh.l3 S2, CSh.l27 S2, CSh.l29 S2, CSh.l30 S2, CSh.l56 S2, CSh.l57 S2, CSh.l58 S2, CSh.l75 S2, CSh.l77 S2, CSh.l79 S2, CSh.l81 S2, CSh.l82 S2, CSh.l83 S2, CSh.l84 S2, CSh.l85 S2, CSh.l86 S2, CSh.l87 S2, CSh.l88 S2, CSh.l54 S2, CSh.l55 S2, CSh.l60 S2, CSh.l61 S2, CSh.l64 S2, CSh.l65 S2, CSh.l68 S2, CSh.l69 S2, CSh.l72 S2, CSh.l73 S2, CSh.l90 S2, CSh.l91 S2, CSh.p0_0 S2, CSh.p0_3 S2, CSh.p0_4 S2, CSh.p0_5 S2, CSh.p0_6 S2, CSh.p0_7 S2, CSh.p0_8 S2, CSh.p0_9 S2, CSh.p0_10 S2, CSh.p0_14 S2, CSh.p2_0 S2, CSh.p26_0 S2, CSh.p26_13 S2, CSh.p26_14 S2, CSh.p31_1 S2, CSh.p31_3 S2, CSh.p31_4 S2, CSh.p62_0 S2, CSh.p66_0 S2, CSh.p70_0 S2, CSh.p74_0 S2, CSh.p74_1 S2, CSh.p74_6 S2, CSh.p74_7 S2, CSh.p74_10 S2, CSh.p80_1 S2, CSh.p80_2 S2, CSh.p80_3 S2, CSh.p80_4 S2, CSh.p80_5 S2, CSh.p80_6 S2, CSh.p80_7 S2, CSh.p80_8 S2, CSh.p53_1 S2, CSh.p53_2 S2, CSh.p59_1 S2, CSh.p59_2 S2, CSh.p63_1 S2, CSh.p63_2 S2, CSh.p67_1 S2, CSh.p67_2 S2, CSh.p71_1 S2, CSh.p71_2 S2, CSh.p89_1 S2, CSh.p89_2 S2, c2, -Int.reduceToNat, -Int32.reduceToNatClampNeg, il0, il1, il2, il3, il4, il5, il6, il7, il8, il9, il10, il11, il12, il13, il14, il15, il16, il17, il18, il19, il20, il21, il22, il23, il24, il25, il26, il27, il28, il29, il30, il31, il32, il35, il36, il38, il40, il42, il43, il44, il45, il46, il47, il48, il49, il50, il51, il52, il57, il59, il60, il63, il64, il75, il80, il95, il96, il97, il98, il99, il100, il120, il122, il123, il127, il128, il135, il167, il175, il225, il249, il250, il255, il256, il360, il370, il384, il600, il700, il740, il900, il940, il1024, il1600, il4800, il64000, il125000, il262143, il1000000000, iI_toInt, iI_add, iI_sub, iI_mul, iI_neg, iI_lt, iI_le, iI_eq, iI_n, iI_in, iI_div, iI_mod, iI_shm, iI_and1, iI_and7, iI_and63, iI_shr3, iI_shr6, rd_I, ob, Option.some.injEq, exists_eq_left', exists_eq_left, true_and, and_true, fqI, fqJ, eq_self, true_or, or_true, bP_0, bP_0i, npP, bP_1i, bP_b, not_true_eq_false, not_false_eq_true, false_implies, true_implies, implies_true, Classical.not_not, and_self]
        intro g3 w3
        obtain ⟨f3, r3'⟩ := wI (i := r * 128 + sp) (by omega) (by omega) (by omega) w3
        have S3 := S2.gr f3.gr
        have c3 : rd g3 81 r = nmB s r sp := by rw [f3.row (by simp)]; exact c2
        simp (disch := omega) only [CSh.o0 S3, CSh.o1 S3, CSh.o2 S3, CSh.o3 S3, CSh.o26 S3, CSh.o27 S3, CSh.o29 S3, CSh.o30 S3, CSh.o31 S3, CSh.o56 S3, CSh.o57 S3, CSh.o58 S3, CSh.o62 S3, CSh.o66 S3, CSh.o70 S3, CSh.o74 S3, CSh.o75 S3, CSh.o77 S3, CSh.o79 S3, CSh.o80 S3, CSh.o81 S3, CSh.o82 S3, CSh.o83 S3, CSh.o84 S3, CSh.o85 S3, CSh.o86 S3, CSh.o87 S3, CSh.o88 S3, CSh.o53 S3, CSh.o54 S3, CSh.o55 S3, CSh.o59 S3, CSh.o60 S3, CSh.o61 S3, CSh.o63 S3, CSh.o64 S3, CSh.o65 S3, CSh.o67 S3, CSh.o68 S3, CSh.o69 S3, CSh.o71 S3, CSh.o72 S3, CSh.o73 S3, CSh.o89 S3, CSh.o90 S3, CSh.o91 S3, CSh.l1 S3, CSh.l3 S3, CSh.l27 S3, CSh.l29 S3, CSh.l30 S3, CSh.l56 S3, CSh.l57 S3, CSh.l58 S3, CSh.l75 S3, CSh.l77 S3, CSh.l79 S3, CSh.l81 S3, CSh.l82 S3, CSh.l83 S3, CSh.l84 S3, CSh.l85 S3, CSh.l86 S3, CSh.l87 S3, CSh.l88 S3, CSh.l54 S3, CSh.l55 S3, CSh.l60 S3, CSh.l61 S3, CSh.l64 S3, CSh.l65 S3, CSh.l68 S3, CSh.l69 S3, CSh.l72 S3, CSh.l73 S3, CSh.l90 S3, CSh.l91 S3, CSh.p0_0 S3, CSh.p0_3 S3, CSh.p0_4 S3, CSh.p0_5 S3, CSh.p0_6 S3, CSh.p0_7 S3, CSh.p0_8 S3, CSh.p0_9 S3, CSh.p0_10 S3, CSh.p0_14 S3, CSh.p2_0 S3, CSh.p26_0 S3, CSh.p26_13 S3, CSh.p26_14 S3, CSh.p31_1 S3, CSh.p31_3 S3, CSh.p31_4 S3, CSh.p62_0 S3, CSh.p66_0 S3, CSh.p70_0 S3, CSh.p74_0 S3, CSh.p74_1 S3, CSh.p74_6 S3, CSh.p74_7 S3, CSh.p74_10 S3, CSh.p80_1 S3, CSh.p80_2 S3, CSh.p80_3 S3, CSh.p80_4 S3, CSh.p80_5 S3, CSh.p80_6 S3, CSh.p80_7 S3, CSh.p80_8 S3, CSh.p53_1 S3, CSh.p53_2 S3, CSh.p59_1 S3, CSh.p59_2 S3, CSh.p63_1 S3, CSh.p63_2 S3, CSh.p67_1 S3, CSh.p67_2 S3, CSh.p71_1 S3, CSh.p71_2 S3, CSh.p89_1 S3, CSh.p89_2 S3, c3, -Int.reduceToNat, -Int32.reduceToNatClampNeg, il0, il1, il2, il3, il4, il5, il6, il7, il8, il9, il10, il11, il12, il13, il14, il15, il16, il17, il18, il19, il20, il21, il22, il23, il24, il25, il26, il27, il28, il29, il30, il31, il32, il35, il36, il38, il40, il42, il43, il44, il45, il46, il47, il48, il49, il50, il51, il52, il57, il59, il60, il63, il64, il75, il80, il95, il96, il97, il98, il99, il100, il120, il122, il123, il127, il128, il135, il167, il175, il225, il249, il250, il255, il256, il360, il370, il384, il600, il700, il740, il900, il940, il1024, il1600, il4800, il64000, il125000, il262143, il1000000000, iI_toInt, iI_add, iI_sub, iI_mul, iI_neg, iI_lt, iI_le, iI_eq, iI_n, iI_in, iI_div, iI_mod, iI_shm, iI_and1, iI_and7, iI_and63, iI_shr3, iI_shr6, rd_I, ob, Option.some.injEq, exists_eq_left', exists_eq_left, true_and, and_true, fqI, fqJ, eq_self, true_or, or_true, bP_0, bP_0i, npP, bP_1i, bP_b, not_true_eq_false, not_false_eq_true, false_implies, true_implies, implies_true, Classical.not_not, and_self]
        intro g4 w4
        obtain ⟨f4, r4⟩ := wI (i := r) (by omega) (by omega) (by omega) w4
        have F4 : Fr [81, 82, 84] [83] [] b g4 := (f1.mono (by simp) (by simp) (by simp)).trans ((f2.mono (by simp) (by simp) (by simp)).trans ((f3.mono (by simp) (by simp) (by simp)).trans (f4.mono (by simp) (by simp) (by simp))))
        have e82 : rd g4 82 = updT (rd b 82) (r * 40 + nmB s r sp) sp := by rw [f4.row (by simp), f3.row (by simp), f2.row (by simp), r1]
        have e84 : rd g4 84 = updT (rd b 84) (r * 128 + sp) (nmB s r sp) := by rw [f4.row (by simp), r3', f2.row (by simp), f1.row (by simp)]
        have e81 : rd g4 81 = updT (rd b 81) r (nmB s r sp + 1) := by rw [r4, f3.row (by simp), f2.row (by simp), f1.row (by simp)]
        have e83 : ∀ j : Nat, aJ g4 83 j = if j = (r * 40 + nmB s r sp).toNat then cvZ (wsp s r sp) (hsp s r sp) (sp % 64) else aJ b 83 j := fun j => by rw [f4.2.2.2.2.2.1 83 (by simp), f3.2.2.2.2.2.1 83 (by simp), j2, f1.2.2.2.2.2.1 83 (by simp)]
        refine nx g4 ⟨Fb.trans F4, ⟨by rw [e81, updT_s, e], fun q q0 q1 qd => ?_, fun q q0 q1 qd => ?_, fun q q0 q1 qd => ?_⟩, O.trans ⟨fun j hj => by rw [e81, updT_n hj], fun j hj => by rw [e82, updT_n (by omega)], fun j hj => by rw [e84, updT_n (by omega)], fun j j0 hj => by rw [e83, if_neg (by omega)]⟩⟩
        · rw [e82]
          by_cases cq : q = sp
          · rw [cq, show 40 * r + nmB s r sp = r * 40 + nmB s r sp by omega, updT_s]
          · have := nmB_lt (s := s) (r := r) (sp := q) (sq := sp) q0 (by omega) qd
            rw [updT_n (by omega)]; exact J.ss q q0 (by omega) qd
        · rw [e84]
          by_cases cq : q = sp
          · rw [cq, show 128 * r + sp = r * 128 + sp by omega, updT_s]
          · rw [updT_n (by omega)]; exact J.nn q q0 (by omega) qd
        · rw [e83]
          by_cases cq : q = sp
          · rw [cq, if_pos (by omega)]
          · have a := nmB_lt (s := s) (r := r) (sp := q) (sq := sp) q0 (by omega) qd
            have b := nmB_nn (s := s) (r := r) q0
            rw [if_neg (by omega)]; exact J.cv q q0 (by omega) qd
    · obtain ⟨Fb, J, O⟩ := J
      show wb_X0_listOf_32 (wl_X0_listOf_32 postV k) b 80 (iI r) (iI (ltB s r)) (iI (ltB s r)) postV
      unfold wb_X0_listOf_32
      simp (disch := omega) only [-Int.reduceToNat, -Int32.reduceToNatClampNeg, il0, il1, il2, il3, il4, il5, il6, il7, il8, il9, il10, il11, il12, il13, il14, il15, il16, il17, il18, il19, il20, il21, il22, il23, il24, il25, il26, il27, il28, il29, il30, il31, il32, il35, il36, il38, il40, il42, il43, il44, il45, il46, il47, il48, il49, il50, il51, il52, il57, il59, il60, il63, il64, il75, il80, il95, il96, il97, il98, il99, il100, il120, il122, il123, il127, il128, il135, il167, il175, il225, il249, il250, il255, il256, il360, il370, il384, il600, il700, il740, il900, il940, il1024, il1600, il4800, il64000, il125000, il262143, il1000000000, iI_toInt, iI_add, iI_sub, iI_mul, iI_neg, iI_lt, iI_le, iI_eq, iI_n, iI_in, iI_div, iI_mod, iI_shm, iI_and1, iI_and7, iI_and63, iI_shr3, iI_shr6, rd_I, ob, Option.some.injEq, exists_eq_left', exists_eq_left, true_and, and_true, fqI, fqJ, eq_self, true_or, or_true, bP_0, bP_0i, npP, bP_1i, bP_b, not_true_eq_false, not_false_eq_true, false_implies, true_implies, implies_true, Classical.not_not, and_self]
      exact ⟨fun _ => K b Fb J O, fun u => by omega⟩
  have ew := L.wi r h1 h2
  have eh := L.hi r h1 h2
  unfold wp_X0_listOf wb_X0_listOf_29
  simp (disch := omega) only [CSh.o0 S, CSh.o1 S, CSh.o2 S, CSh.o3 S, CSh.o26 S, CSh.o27 S, CSh.o29 S, CSh.o30 S, CSh.o31 S, CSh.o56 S, CSh.o57 S, CSh.o58 S, CSh.o62 S, CSh.o66 S, CSh.o70 S, CSh.o74 S, CSh.o75 S, CSh.o77 S, CSh.o79 S, CSh.o80 S, CSh.o81 S, CSh.o82 S, CSh.o83 S, CSh.o84 S, CSh.o85 S, CSh.o86 S, CSh.o87 S, CSh.o88 S, CSh.o53 S, CSh.o54 S, CSh.o55 S, CSh.o59 S, CSh.o60 S, CSh.o61 S, CSh.o63 S, CSh.o64 S, CSh.o65 S, CSh.o67 S, CSh.o68 S, CSh.o69 S, CSh.o71 S, CSh.o72 S, CSh.o73 S, CSh.o89 S, CSh.o90 S, CSh.o91 S, CSh.l1 S, CSh.l3 S, CSh.l27 S, CSh.l29 S, CSh.l30 S, CSh.l56 S, CSh.l57 S, CSh.l58 S, CSh.l75 S, CSh.l77 S, CSh.l79 S, CSh.l81 S, CSh.l82 S, CSh.l83 S, CSh.l84 S, CSh.l85 S, CSh.l86 S, CSh.l87 S, CSh.l88 S, CSh.l54 S, CSh.l55 S, CSh.l60 S, CSh.l61 S, CSh.l64 S, CSh.l65 S, CSh.l68 S, CSh.l69 S, CSh.l72 S, CSh.l73 S, CSh.l90 S, CSh.l91 S, CSh.p0_0 S, CSh.p0_3 S, CSh.p0_4 S, CSh.p0_5 S, CSh.p0_6 S, CSh.p0_7 S, CSh.p0_8 S, CSh.p0_9 S, CSh.p0_10 S, CSh.p0_14 S, CSh.p2_0 S, CSh.p26_0 S, CSh.p26_13 S, CSh.p26_14 S, CSh.p31_1 S, CSh.p31_3 S, CSh.p31_4 S, CSh.p62_0 S, CSh.p66_0 S, CSh.p70_0 S, CSh.p74_0 S, CSh.p74_1 S, CSh.p74_6 S, CSh.p74_7 S, CSh.p74_10 S, CSh.p80_1 S, CSh.p80_2 S, CSh.p80_3 S, CSh.p80_4 S, CSh.p80_5 S, CSh.p80_6 S, CSh.p80_7 S, CSh.p80_8 S, CSh.p53_1 S, CSh.p53_2 S, CSh.p59_1 S, CSh.p59_2 S, CSh.p63_1 S, CSh.p63_2 S, CSh.p67_1 S, CSh.p67_2 S, CSh.p71_1 S, CSh.p71_2 S, CSh.p89_1 S, CSh.p89_2 S, p0, LB.o0 H, LB.p2 H, LB.o1 H, LB.l1 H, LB.p3 H, LB.o2 H, LB.l2 H, LB.p4 H, LB.o3 H, LB.l3 H, LB.p6 H, LB.o4 H, LB.l4 H, LB.p7 H, LB.o5 H, LB.l5 H, LB.p8 H, LB.o6 H, LB.l6 H, LB.p9 H, LB.o7 H, LB.l7 H, LB.p10 H, LB.o8 H, LB.l8 H, LB.p12 H, LB.o9 H, LB.l9 H, LB.p14 H, LB.o10 H, LB.p15 H, LB.o16 H, LB.q10_1 H, LB.o11 H, LB.l11 H, LB.q10_2 H, LB.o12 H, LB.l12 H, LB.q10_3 H, LB.o13 H, LB.l13 H, LB.q10_4 H, LB.o14 H, LB.l14 H, LB.q10_5 H, LB.o15 H, LB.l15 H, LB.q16_1 H, LB.o17 H, LB.l17 H, LB.q16_2 H, LB.o18 H, LB.l18 H, LB.q16_3 H, LB.o19 H, LB.l19 H, LB.q16_4 H, LB.o20 H, LB.l20 H, ew, eh, -Int.reduceToNat, -Int32.reduceToNatClampNeg, il0, il1, il2, il3, il4, il5, il6, il7, il8, il9, il10, il11, il12, il13, il14, il15, il16, il17, il18, il19, il20, il21, il22, il23, il24, il25, il26, il27, il28, il29, il30, il31, il32, il35, il36, il38, il40, il42, il43, il44, il45, il46, il47, il48, il49, il50, il51, il52, il57, il59, il60, il63, il64, il75, il80, il95, il96, il97, il98, il99, il100, il120, il122, il123, il127, il128, il135, il167, il175, il225, il249, il250, il255, il256, il360, il370, il384, il600, il700, il740, il900, il940, il1024, il1600, il4800, il64000, il125000, il262143, il1000000000, iI_toInt, iI_add, iI_sub, iI_mul, iI_neg, iI_lt, iI_le, iI_eq, iI_n, iI_in, iI_div, iI_mod, iI_shm, iI_and1, iI_and7, iI_and63, iI_shr3, iI_shr6, rd_I, ob, Option.some.injEq, exists_eq_left', exists_eq_left, true_and, and_true, fqI, fqJ, eq_self, true_or, or_true, bP_0, bP_0i, npP, bP_1i, bP_b, not_true_eq_false, not_false_eq_true, false_implies, true_implies, implies_true, Classical.not_not, and_self]
  unfold ltB at main
  refine ⟨fun c => ?_, fun c => ?_⟩
  · rw [if_neg c] at main; exact main
  · rw [if_pos c] at main; exact main
end BER
