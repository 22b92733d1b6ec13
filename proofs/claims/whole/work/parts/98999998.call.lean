/-! ALL WANTS in the class -/
def ALs (h0 h : AH) (la : Nat) (s z : Int → Int) : Prop := (CSh h) ∧ (LB h la) ∧ (LR h la s) ∧ (Fr [74] [] [] h0 h) ∧ (BL3 h s) ∧ (TG3 h s) ∧ (NSo h s z) ∧ (∀ X, 0 ≤ X → X < pw (s 5) → rd h 77 X = wsm s (s 5).toNat X) ∧ (∀ j, j ≠ 11 → j ≠ 12 → rd h 74 j = rd h0 74 j)
theorem ALs.S {h0 h : AH} {la : Nat} {s z : Int → Int} (R : ALs h0 h la s z) : CSh h := R.1
theorem ALs.H {h0 h : AH} {la : Nat} {s z : Int → Int} (R : ALs h0 h la s z) : LB h la := R.2.1
theorem ALs.L {h0 h : AH} {la : Nat} {s z : Int → Int} (R : ALs h0 h la s z) : LR h la s := R.2.2.1
theorem ALs.F {h0 h : AH} {la : Nat} {s z : Int → Int} (R : ALs h0 h la s z) : Fr [74] [] [] h0 h := R.2.2.2.1
theorem ALs.L3 {h0 h : AH} {la : Nat} {s z : Int → Int} (R : ALs h0 h la s z) : BL3 h s := R.2.2.2.2.1
theorem ALs.TT {h0 h : AH} {la : Nat} {s z : Int → Int} (R : ALs h0 h la s z) : TG3 h s := R.2.2.2.2.2.1
theorem ALs.N {h0 h : AH} {la : Nat} {s z : Int → Int} (R : ALs h0 h la s z) : NSo h s z := R.2.2.2.2.2.2.1
theorem ALs.sm {h0 h : AH} {la : Nat} {s z : Int → Int} (R : ALs h0 h la s z) : ∀ X, 0 ≤ X → X < pw (s 5) → rd h 77 X = wsm s (s 5).toNat X := R.2.2.2.2.2.2.2.1
theorem ALs.ro {h0 h : AH} {la : Nat} {s z : Int → Int} (R : ALs h0 h la s z) : ∀ j, j ≠ 11 → j ≠ 12 → rd h 74 j = rd h0 74 j := R.2.2.2.2.2.2.2.2
section CAL
variable {h h1 h2 h' h0 g0 g : AH} {i : Nat} {qa0 qa ac la fr tw : Nat} {postV : AH → Prop} {post : AH → Int32 → Prop} {a b c c' d f j k v w x y pl r hr how gl goal st u p q l o dn ls best most : Int} {s t t' t0 z T T' : Int → Int} {S R0 : BS} {zr : Int64}
theorem p12_n : ∀ p : Nat, p < 40 → ((iI p) <<< iI 12) = iI (4096 * p) ∧ ∀ q : Nat, q < 40 → ((iI (4096 * p)) ||| (iI q <<< iI 6)) = iI (4096 * p + 64 * q) := by decide +kernel
theorem p12_I (p0 : 0 ≤ p ∧ p < 40) (q0 : 0 ≤ q ∧ q < 40) : (iI p <<< iI 12) = iI (4096 * p) ∧ (iI (4096 * p) ||| (iI q <<< iI 6)) = iI (4096 * p + 64 * q) := by
  have a := p12_n p.toNat (by omega)
  have b := a.2 q.toNat (by omega)
  rw [show ((p.toNat : Nat) : Int) = p by omega] at a b
  rw [show ((q.toNat : Nat) : Int) = q by omega] at b
  exact ⟨a.1, b⟩
theorem p6_I (p0 : 0 ≤ p ∧ p < 40) (q0 : 0 ≤ q ∧ q < 40) (l0 : 0 ≤ l ∧ l < 40) : iI (4096 * p + 64 * q) ||| iI l = iI (4096 * p + 64 * q + l) := by
  have a := st_shl' (a := 64 * p + q) (b := l) (by omega) (by omega) l0.1 (by omega)
  have b := st_shl' (a := 64 * p + q) (b := 0) (by omega) (by omega) (by omega) (by omega)
  rw [or0] at b
  rw [b] at a
  rw [show 64 * (64 * p + q) + 0 = 4096 * p + 64 * q by omega, show 64 * (64 * p + q) + l = 4096 * p + 64 * q + l by omega] at a
  exact a
theorem nI3 (p0 : 0 ≤ p ∧ p < 40) (q0 : 0 ≤ q ∧ q < 40) (l0 : 0 ≤ l ∧ l < 40) : nIn (4096 * p + 64 * q + l) 0 = p ∧ nIn (4096 * p + 64 * q + l) 1 = q ∧ nIn (4096 * p + 64 * q + l) 2 = l := by
  unfold nIn
  rw [if_pos rfl, if_neg (by omega), if_pos rfl, if_neg (by omega), if_neg (by omega)]
  omega
theorem ALs_put (A : ALs h0 h la s z) (hl : la = 5 ∨ la = 32) (i0 : v = 11 ∨ v = 12) (f : Fr [74] [] [] h h1) (r : ∀ j, j ≠ v → rd h1 74 j = rd h 74 j) : ALs h0 h1 la s z := by
  obtain ⟨S, H, L, F, L3, TT, N, sm, ro⟩ := A
  exact ⟨S.gr f.gr, H.gr f.gr (by omega), L.fr f (fun j hj => by simp; omega) (fun j hj => List.not_mem_nil), F.trans f, L3.cg (f.row (by simp)) (f.row (by simp)) (f.2.2.2.2.2.1 83 List.not_mem_nil) (f.row (by simp)), TT.cg (f.row (by simp)) (f.2.2.2.2.2.1 83 List.not_mem_nil) (f.2.2.2.2.2.1 86 List.not_mem_nil), N.cg (f.2.2.2.2.1 87 (by simp)), fun X x0 x1 => by rw [f.row (by simp)]; exact sm X x0 x1, fun j h1 h2 => by rw [r j (by omega)]; exact ro j h1 h2⟩
theorem c_tryLast (A : ALs h0 h la s z) (hl : la = 5 ∨ la = 32) (gs : GS s) (hL : WLi s) (fw : few s) (e : EZ z s) (v9 : ∀ k, 0 ≤ k → k < s 4 → s (135 + 4 * k + 2) ≤ 9) (ru : RUq s) (hp : 0 ≤ p ∧ p < cntB s 0) (hq : 0 ≤ q ∧ q < cntB s 1) (b01 : zb (aJ h 86 (40 + p).toNat) q) (B : AB s t0 z (rd h 74 11) (rd h 74 12) (4096 * p + 64 * q))
    (K : ∀ h', ALs h0 h' la s z → AB s t0 z (rd h' 74 11) (rd h' 74 12) (4096 * p + 64 * q + 64) → postV h') : wp_X6_tryLast h 74 (iI (4096 * p + 64 * q)) (iI (pw (s 5) - 1)) postV := by
  have c0 := cntB_b (r := 0) gs fw (by omega) (by omega)
  have c1 := cntB_b (r := 1) gs fw (by omega) (by omega)
  have c2 := cntB_b (r := 2) gs fw (by omega) (by omega)
  have n5 := gs.1.2.2.2.2.2.2.1
  have s5 := gs.1.1 5 (by omega) (by omega)
  have pb := pw_b s5.1 n5
  have hp' : 0 ≤ p ∧ p < 40 := by omega
  have hq' : 0 ≤ q ∧ q < 40 := by omega
  have n3 := nI3 hp' hq' (l := 0) (by omega)
  rw [Int.add_zero] at n3
  have SS := A.S
  unfold wp_X6_tryLast
  refine ⟨SS.o74, 80, SS.p74_0, SS.o80, ?_⟩
  rw [show (2 : Int32) = iI 2 from rfl, show (1 : Int32) = iI 1 from rfl]
  refine c_roomFor SS (by omega) (by omega) (fun o o0 o3 => ?_) (by omega) (by omega) (by omega) (by omega) fun v hv => ?_
  · have cc : o = 0 ∨ o = 1 ∨ o = 2 := by omega
    rcases cc with rfl | rfl | rfl <;> omega
  have bit : ∀ l, 0 ≤ l → l < 64 → (zb v l ↔ zb (aJ h 86 (80 + p).toNat) l ∧ zb (aJ h 86 (200 + q).toNat) l) := fun l l0 l1 => by
    rw [hv l l0 l1]
    refine ⟨fun u => ?_, fun u o o0 o1 o2 => ?_⟩
    · have u0 := u 0 (by omega) (by omega) (by omega)
      have u1 := u 1 (by omega) (by omega) (by omega)
      rw [n3.1, show (3 * 0 + 2) * 40 + p = 80 + p by omega] at u0
      rw [n3.2.1, show (3 * 1 + 2) * 40 + q = 200 + q by omega] at u1
      exact ⟨u0, u1⟩
    · have cc : o = 0 ∨ o = 1 := by omega
      rcases cc with rfl | rfl
      · rw [n3.1, show (3 * 0 + 2) * 40 + p = 80 + p by omega]; exact u.1
      · rw [n3.2.1, show (3 * 1 + 2) * 40 + q = 200 + q by omega]; exact u.2
  rw [show (0 : Int32) = iI 0 from rfl]
  refine lf_for (W := fun k (b : AH) l => wl_X6_tryLast_14 postV k b 74 (iI (4096 * p + 64 * q)) (iI (pw (s 5) - 1)) v (iI l)) (lo := 0) (hi := cntB s 2) (fun l b => ALs h0 b la s z ∧ aJ b 86 = aJ h 86 ∧ AB s t0 z (rd b 74 11) (rd b 74 12) (4096 * p + 64 * q + l)) c2.1 (fun k b l l0 l1 J nx => ?_) (fun k b J => ?_) h ⟨A, rfl, by rw [Int.add_zero]; exact B⟩
  · obtain ⟨Ab, e86, Bb⟩ := J
    have Sb := Ab.S
    have cnt := Ab.L3.cnt (r := 2) (by omega) (by omega)
    have hl' : 0 ≤ l ∧ l < 40 := by omega
    have n4 := nI3 hp' hq' hl'
    have pl6 := p6_I hp' hq' hl'
    -- the TOWN of these numbers
    obtain ⟨W, nm⟩ := tn_lys (t0 := t0) fw e Ab.L3 hp hq ⟨l0, l1⟩
    have m0 : nmr s (tn3 b s t0 p q l) 0 = p := by rw [nm 0 (by omega) (by omega)]; rfl
    have m1 : nmr s (tn3 b s t0 p q l) 1 = q := by rw [nm 1 (by omega) (by omega)]; rfl
    have m2 : nmr s (tn3 b s t0 p q l) 2 = l := by rw [nm 2 (by omega) (by omega)]; rfl
    have cs : csT s (tn3 b s t0 p q l) = 4096 * p + 64 * q + l := by unfold csT; rw [m0, m1, m2]
    have t01 := tg_iff gs fw e v9 ru Ab.L3 Ab.TT W (a := 0) (b := 1) (by omega)
    have t02 := tg_iff gs fw e v9 ru Ab.L3 Ab.TT W (a := 0) (b := 2) (by omega)
    have t12 := tg_iff gs fw e v9 ru Ab.L3 Ab.TT W (a := 1) (b := 2) (by omega)
    rw [m0, m1, show (3 * 0 + 1) * 40 + p = 40 + p by omega, e86] at t01
    rw [m0, m2, show (3 * 0 + 2) * 40 + p = 80 + p by omega, e86] at t02
    rw [m1, m2, show (3 * 1 + 2) * 40 + q = 200 + q by omega, e86] at t12
    have same : ∀ T, VAl s t0 z T → 4096 * p + 64 * q + l ≤ csT s T → csT s T < 4096 * p + 64 * q + (l + 1) → T = tn3 b s t0 p q l := fun T V u1 u2 => by
      -- both have these numbers
      obtain ⟨d1, d2, d3, d4⟩ := csT_dig gs fw e (LYS.vt V.1)
      have k0 : nmr s T 0 = p := by omega
      have k1 : nmr s T 1 = q := by omega
      have k2 : nmr s T 2 = l := by omega
      have a01 := tg_iff gs fw e v9 ru Ab.L3 Ab.TT (LYS.vt V.1) (a := 0) (b := 1) (by omega)
      have a02 := tg_iff gs fw e v9 ru Ab.L3 Ab.TT (LYS.vt V.1) (a := 0) (b := 2) (by omega)
      have a12 := tg_iff gs fw e v9 ru Ab.L3 Ab.TT (LYS.vt V.1) (a := 1) (b := 2) (by omega)
      rw [k0, k1, show (3 * 0 + 1) * 40 + p = 40 + p by omega, e86] at a01
      rw [k0, k2, show (3 * 0 + 2) * 40 + p = 80 + p by omega, e86] at a02
      rw [k1, k2, show (3 * 1 + 2) * 40 + q = 200 + q by omega, e86] at a12
      have V3 : VAl s t0 z (tn3 b s t0 p q l) := VAl_of3 fw W (fun j hj => tn_out hj) fun x y x0 xy y3 y2 => by
        have cc : (x = 0 ∧ y = 1) ∨ (x = 0 ∧ y = 2) ∨ (x = 1 ∧ y = 2) := by omega
        rcases cc with ⟨rfl, rfl⟩ | ⟨rfl, rfl⟩ | ⟨rfl, rfl⟩
        · exact t01.mp b01 y2
        · exact t02.mp (a02.mpr fun u => VAl_to3 V (by omega) (by omega) u) y2
        · exact t12.mp (a12.mpr fun u => VAl_to3 V (by omega) (by omega) u) y2
      exact VAl_inj gs fw e V V3 (by omega)
    have iv : ∀ {v : Int32}, v = iI l + 1 → v = iI (l + 1) := fun {v} e => by rw [e, show (1 : Int32) = iI 1 from rfl, iI_add]
    have mb := mv_b (t := tn3 b s t0 p q l) (z := z) gs
    have b11 : -1 ≤ rd b 74 11 ∧ rd b 74 11 ≤ 990 := by
      rcases Bb with ⟨a1, a2, a3⟩ | ⟨T, a1, a2, a3, a4, a5⟩
      · omega
      · have := mv_b (t := T) (z := z) gs; omega
    show wb_X6_tryLast_14 (wl_X6_tryLast_14 postV k) b 74 (iI (4096 * p + 64 * q)) (iI (pw (s 5) - 1)) v (iI l) postV
    have i81 : aI b 81 (iI 2).toNatClampNeg = iI (cntB s 2) := by rw [← cnt]; exact rd_I b 81 (i := 2) (by omega)
    have i11 : ∀ {g : AH} {m : Int}, rd g 74 11 = m → aI g 74 11 = iI m := fun {g m} e => by rw [← e]; exact rd_I g 74 (i := 11) (by omega)
    unfold wb_X6_tryLast_14 wb_X6_tryLast_84
    refine ⟨Sb.o74, 80, Sb.p74_0, Sb.o80, 81, Sb.p80_1, Sb.o81, iI_in (a := 2) (by omega) (by rw [Sb.l81]; omega) (by rw [Sb.l81]; omega), fun u => ?_, fun _ => ⟨fun nb v1 e1 => ?_, fun yb => ?_⟩⟩
    · rw [show (2 : Int32) = iI 2 from rfl, i81, iI_le (by omega) (by omega) (by omega) (by omega)] at u
      omega
    · rw [iv e1]
      rw [show (0 : Int32) = iI 0 from rfl, lgc, z_bit v l0 (by omega), bit l l0 (by omega)] at nb
      refine nx b ⟨Ab, e86, ?_⟩
      rw [← Int.add_assoc]
      refine AB_low Bb gs (by omega) fun T V u1 u2 => ?_
      have eT := same T V u1 (by omega)
      rw [eT] at V
      exact absurd ⟨t02.mpr fun u => VAl_to3 V (by omega) (by omega) u, t12.mpr fun u => VAl_to3 V (by omega) (by omega) u⟩ nb
    · rw [show (0 : Int32) = iI 0 from rfl, lgc, z_bit v l0 (by omega), bit l l0 (by omega), Classical.not_not] at yb
      have V3 : VAl s t0 z (tn3 b s t0 p q l) := VAl_of3 fw W (fun j hj => tn_out hj) fun x y x0 xy y3 y2 => by
        have cc : (x = 0 ∧ y = 1) ∨ (x = 0 ∧ y = 2) ∨ (x = 1 ∧ y = 2) := by omega
        rcases cc with ⟨rfl, rfl⟩ | ⟨rfl, rfl⟩ | ⟨rfl, rfl⟩
        · exact t01.mp b01 y2
        · exact t02.mp yb.1 y2
        · exact t12.mp yb.2 y2
      refine ⟨Sb.o74, 77, Sb.p74_7, Sb.o74, 80, Sb.p74_0, Sb.o80, ?_⟩
      rw [pl6, ← cs]
      refine c_notSo Sb gs hL fw e Ab.N V3.1 fun X hX _ => ?_
      obtain ⟨n, n1, n2, n3', n4'⟩ := sum_num (P := soT s (tn3 b s t0 p q l) z) gs Ab.sm fun w w0 w1 => by
        rw [hX w w0 (by omega)]
        exact ⟨fun q => Classical.byContradiction fun r => q ⟨w1, r⟩, fun q r => r.2 q⟩
      have n4' : rd b 77 n = mvT s (tn3 b s t0 p q l) z := n4'
      rw [n1]
      refine ⟨Sb.o77, iI_in n2 (by rw [Sb.l77]; omega) (by rw [Sb.l77]; omega), fun v1 ev => ⟨Sb.o74, ?_⟩⟩
      rw [iI_cl n2 (by omega), rd_I _ _ n2, n4'] at ev
      rw [ev, i11 rfl, iI_le (by omega) (by omega) (by omega) (by omega)]
      refine ⟨fun le v2 e2 => ?_, fun gt => ⟨Sb.o74, fun g1 w1 => ?_⟩⟩
      · rw [iv e2]
        refine nx b ⟨Ab, e86, ?_⟩
        rw [← Int.add_assoc]
        refine AB_low Bb gs (by omega) fun T V u1 u2 => ?_
        rw [same T V u1 (by omega)]
        exact le
      · obtain ⟨f1, r1⟩ := wI (i := 11) (by omega) (by omega) (by omega) w1
        have A1 := ALs_put Ab hl (v := 11) (by omega) f1 (fun j hj => by rw [r1, updT_n hj])
        have S1 := A1.S
        refine ⟨S1.o74, fun g2 w2 v3 e3 => ?_⟩
        have ok := csT_ok gs fw e V3.1
        have ok0 := ok.1.1
        obtain ⟨f2, r2⟩ := wI (i := 12) (v := csT s (tn3 b s t0 p q l)) (by omega) (by omega) (by omega) w2
        have A2 := ALs_put A1 hl (v := 12) (by omega) f2 (fun j hj => by rw [r2, updT_n hj])
        rw [iv e3]
        refine nx g2 ⟨A2, by rw [f2.2.2.2.2.2.1 86 List.not_mem_nil, f1.2.2.2.2.2.1 86 List.not_mem_nil, e86], ?_⟩
        rw [r2, updT_s, updT_n (by omega), r1, updT_s, cs, ← Int.add_assoc]
        exact AB_take Bb gs fw e V3 cs (by omega)
  · obtain ⟨Ab, e86, Bb⟩ := J
    have Sb := Ab.S
    have cnt := Ab.L3.cnt (r := 2) (by omega) (by omega)
    have i81 : aI b 81 (iI 2).toNatClampNeg = iI (cntB s 2) := by rw [← cnt]; exact rd_I b 81 (i := 2) (by omega)
    show wb_X6_tryLast_14 (wl_X6_tryLast_14 postV k) b 74 (iI (4096 * p + 64 * q)) (iI (pw (s 5) - 1)) v (iI (cntB s 2)) postV
    unfold wb_X6_tryLast_14
    refine ⟨Sb.o74, 80, Sb.p74_0, Sb.o80, 81, Sb.p80_1, Sb.o81, iI_in (a := 2) (by omega) (by rw [Sb.l81]; omega) (by rw [Sb.l81]; omega), fun _ => ?_, fun u => absurd ?_ u⟩
    · refine K b Ab (AB_low Bb gs (by omega) fun T V u1 u2 => ?_)
      obtain ⟨d1, d2, d3, d4⟩ := csT_dig gs fw e (LYS.vt V.1)
      omega
    · rw [show (2 : Int32) = iI 2 from rfl, i81, iI_le (by omega) (by omega) (by omega) (by omega)]
      exact Int.le_refl _
end CAL
