/-! which numbers of two RAFTS go together -/
noncomputable def rchV (s : Int → Int) (a b : Int) : Int := if fstI (fun k => (s (135 + 4 * k) = a ∧ s (135 + 4 * k + 1) = b) ∨ (s (135 + 4 * k) = b ∧ s (135 + 4 * k + 1) = a)) (s 4).toNat 0 = -1 then 99 else s (135 + 4 * fstI (fun k => (s (135 + 4 * k) = a ∧ s (135 + 4 * k + 1) = b) ∨ (s (135 + 4 * k) = b ∧ s (135 + 4 * k + 1) = a)) (s 4).toNat 0 + 2)
noncomputable def cntB (s : Int → Int) (r : Int) : Int := iteP (r < s 2) (nmB s r (ltB s r)) 1
def gspN (h : AH) (s : Int → Int) (a b p q : Int) : Int := gsp (rd h 82 (40 * a + p) % 8) (rd h 82 (40 * a + p) / 8 % 8) (wsp s a (rd h 82 (40 * a + p))) (hsp s a (rd h 82 (40 * a + p))) (rd h 82 (40 * b + q) % 8) (rd h 82 (40 * b + q) / 8 % 8) (wsp s b (rd h 82 (40 * b + q))) (hsp s b (rd h 82 (40 * b + q)))
def okN (h : AH) (s : Int → Int) (a b p q : Int) : Prop := aJ h 83 (40 * a + p).toNat &&& aJ h 83 (40 * b + q).toNat = 0 ∧ (rchV s a b = 99 ∨ gspN h s a b p q ≤ rchV s a b)
/-- pairs of D that go together are marked, both ways -/
def tgD (h0 h : AH) (s : Int → Int) (a b : Int) (D : Int → Int → Prop) : Prop := ∀ p q, 0 ≤ p → p < 40 → 0 ≤ q → q < 40 → (zb (aJ h 86 ((3 * a + b) * 40 + p).toNat) q ↔ D p q ∧ okN h0 s a b p q) ∧ (zb (aJ h 86 ((3 * b + a) * 40 + q).toNat) p ↔ D p q ∧ okN h0 s a b p q)
section MAT
variable {h h1 h2 h' h0 g0 : AH} {qa0 qa ac la : Nat} {postV : AH → Prop} {post : AH → Int32 → Prop} {a b c d f i j k t' v w x y pl r hr how goal st u sp sq q p : Int} {s t z X F B : Int → Int} {S : BS} {zz : Int64} {D : Int → Int → Prop}
theorem c_reach2 (H : LB h la) (L : LR h la s) (s4 : 0 ≤ s 4 ∧ s 4 ≤ 8) (hk : ∀ k, 0 ≤ k → k < s 4 → (0 ≤ s (135 + 4 * k) ∧ s (135 + 4 * k) < 8) ∧ (0 ≤ s (135 + 4 * k + 1) ∧ s (135 + 4 * k + 1) < 8) ∧ 0 ≤ s (135 + 4 * k + 2) ∧ s (135 + 4 * k + 2) < 99) (h1 : 0 ≤ a) (h2 : a < 8) (h3 : 0 ≤ b) (h4 : b < 8) (K : post h (iI (rchV s a b))) : wp_X4_reachOf h (la + 10) (iI a) (iI b) post := by
  unfold wp_X4_reachOf
  rw [show (0 : Int32) = iI 0 from rfl]
  have q0 := L.q0
  refine (lp_fst (W := fun n i => wl_X4_reachOf_2 post n h (la + 10) (iI a) (iI b) (iI i)) (P := fun k => (s (135 + 4 * k) = a ∧ s (135 + 4 * k + 1) = b) ∨ (s (135 + 4 * k) = b ∧ s (135 + 4 * k + 1) = a)) (lo := 0) (hi := s 4) (E := fun v => post h (iI (if v = -1 then 99 else s (135 + 4 * v + 2)))) s4.1 (fun _ => id) (fun n i i0 i1 => ?_) (fun n => ?_)).mpr ?_
  · show wb_X4_reachOf_2 (wl_X4_reachOf_2 post n) h (la + 10) (iI a) (iI b) (iI i) post ↔ _
    obtain ⟨k1, k2, k3⟩ := hk i i0 i1
    have ro := L.ro i i0 i1
    have rp := L.rp i i0 i1
    have rq := L.rq i i0 i1
    rw [if_neg (show ¬ i = -1 by omega)]
    unfold wb_X4_reachOf_2 wb_X4_reachOf_30 wb_X4_reachOf_50 wb_X4_reachOf_57
    simp (disch := omega) only [LB.o10 H, LB.q10_1 H, LB.o11 H, LB.l11 H, LB.q10_2 H, LB.o12 H, LB.l12 H, LB.q10_3 H, LB.o13 H, LB.l13 H, fd0, fd1, fd2, fd3, fd4, fd5, fd6, fd7, fd8, fd9, fd10, fd11, fd12, fd13, fd14, fd15, fd16, fd17, fd18, fd19, fd20, fd21, fd22, fd23, fd24, fd25, fd26, fd27, fd28, fd29, fd30, fd31, fd32, fd33, fd34, fd35, fd36, fd37, fd38, fd39, fd40, fd41, fd42, fd43, fd44, fd45, fd46, fd47, fd48, fd49, fd50, fd51, fd52, q0, ro, rp, rq, -Int.reduceToNat, -Int32.reduceToNatClampNeg, il0, il1, il2, il3, il4, il5, il6, il7, il8, il9, il10, il11, il12, il13, il14, il15, il16, il17, il18, il19, il20, il21, il22, il23, il24, il25, il26, il27, il28, il29, il30, il31, il32, il35, il36, il38, il40, il42, il43, il44, il45, il46, il47, il48, il49, il50, il51, il52, il57, il59, il60, il63, il64, il75, il80, il95, il96, il97, il98, il99, il100, il120, il122, il123, il127, il128, il135, il167, il175, il225, il249, il250, il255, il256, il360, il370, il384, il600, il700, il740, il900, il940, il1024, il1600, il4800, il64000, il125000, il262143, il1000000000, iI_toInt, iI_add, iI_sub, iI_mul, iI_neg, iI_lt, iI_le, iI_eq, iI_n, iI_in, iI_div, iI_mod, iI_shm, iI_and1, iI_and7, iI_and63, iI_shr3, iI_shr6, rd_I, ob, Option.some.injEq, exists_eq_left', exists_eq_left, true_and, and_true, fqI, fqJ, eq_self, true_or, or_true, bP_0, bP_0i, npP, bP_1i, bP_b, not_true_eq_false, not_false_eq_true, false_implies, true_implies, implies_true, Classical.not_not, and_self, cP, cP', ite_n, ite_f]
    by_cases c1 : s (135 + 4 * i) = a
    · rw [ite_t c1]
      by_cases c2 : s (135 + 4 * i + 1) = b
      · rw [ite_t c2, ite_t (Or.inl ⟨c1, c2⟩)]
      · rw [ite_f c2]
        by_cases c3 : s (135 + 4 * i) = b
        · rw [ite_t c3]
          by_cases c4 : s (135 + 4 * i + 1) = a
          · rw [ite_t c4, ite_t (Or.inr ⟨c3, c4⟩)]
          · rw [ite_f c4, ite_f (by omega)]
        · rw [ite_f c3, ite_f (by omega)]
    · rw [ite_f c1]
      by_cases c3 : s (135 + 4 * i) = b
      · rw [ite_t c3]
        by_cases c4 : s (135 + 4 * i + 1) = a
        · rw [ite_t c4, ite_t (Or.inr ⟨c3, c4⟩)]
        · rw [ite_f c4, ite_f (by omega)]
      · rw [ite_f c3, ite_f (by omega)]
  · show wb_X4_reachOf_2 (wl_X4_reachOf_2 post n) h (la + 10) (iI a) (iI b) (iI (s 4)) post ↔ _
    rw [if_pos rfl]
    unfold wb_X4_reachOf_2
    simp (disch := omega) only [LB.o10 H, fd0, fd1, fd2, fd3, fd4, fd5, fd6, fd7, fd8, fd9, fd10, fd11, fd12, fd13, fd14, fd15, fd16, fd17, fd18, fd19, fd20, fd21, fd22, fd23, fd24, fd25, fd26, fd27, fd28, fd29, fd30, fd31, fd32, fd33, fd34, fd35, fd36, fd37, fd38, fd39, fd40, fd41, fd42, fd43, fd44, fd45, fd46, fd47, fd48, fd49, fd50, fd51, fd52, q0, -Int.reduceToNat, -Int32.reduceToNatClampNeg, il0, il1, il2, il3, il4, il5, il6, il7, il8, il9, il10, il11, il12, il13, il14, il15, il16, il17, il18, il19, il20, il21, il22, il23, il24, il25, il26, il27, il28, il29, il30, il31, il32, il35, il36, il38, il40, il42, il43, il44, il45, il46, il47, il48, il49, il50, il51, il52, il57, il59, il60, il63, il64, il75, il80, il95, il96, il97, il98, il99, il100, il120, il122, il123, il127, il128, il135, il167, il175, il225, il249, il250, il255, il256, il360, il370, il384, il600, il700, il740, il900, il940, il1024, il1600, il4800, il64000, il125000, il262143, il1000000000, iI_toInt, iI_add, iI_sub, iI_mul, iI_neg, iI_lt, iI_le, iI_eq, iI_n, iI_in, iI_div, iI_mod, iI_shm, iI_and1, iI_and7, iI_and63, iI_shr3, iI_shr6, rd_I, ob, Option.some.injEq, exists_eq_left', exists_eq_left, true_and, and_true, fqI, fqJ, eq_self, true_or, or_true, bP_0, bP_0i, npP, bP_1i, bP_b, not_true_eq_false, not_false_eq_true, false_implies, true_implies, implies_true, Classical.not_not, and_self, cP, cP', ite_n, ite_t]
  · rw [show s 4 - 0 = s 4 by omega]
    exact K
theorem nmB_surj : ∀ (n : Nat) (p : Int), 0 ≤ p → p < nmB s r n → ∃ q, 0 ≤ q ∧ q < n ∧ hdB s r q ∧ nmB s r q = p := by
  intro n
  induction n with
  | zero => intro p p0 p1; rw [show ((0 : Nat) : Int) = 0 by rfl, nmB_0] at p1; omega
  | succ n ih =>
    intro p p0 p1
    rw [show ((n + 1 : Nat) : Int) = (n : Int) + 1 by omega, nmB_s (by omega)] at p1
    by_cases c : p < nmB s r n
    · obtain ⟨q, q0, q1, q2, q3⟩ := ih p p0 c
      exact ⟨q, q0, by omega, q2, q3⟩
    · by_cases hd : hdB s r n
      · rw [ite_t hd] at p1
        exact ⟨n, by omega, by omega, hd, by omega⟩
      · rw [ite_f hd] at p1; omega
/-- the lists of all three -/
def BL3 (h : AH) (s : Int → Int) : Prop := ∀ r, 0 ≤ r → r < 3 → (r < s 2 → BLx h s r (ltB s r)) ∧ (s 2 ≤ r → rd h 81 r = 1 ∧ aJ h 83 (40 * r).toNat = 0)
theorem BL3.cnt (L3 : BL3 h s) (h1 : 0 ≤ r) (h2 : r < 3) : rd h 81 r = cntB s r := by
  unfold cntB
  by_cases c : r < s 2
  · rw [ite_t c]; exact ((L3 r h1 h2).1 c).cn
  · rw [ite_f c]; exact ((L3 r h1 h2).2 (by omega)).1
theorem cntB_b (gs : GS s) (fw : few s) (h1 : 0 ≤ r) (h2 : r < 3) : 0 ≤ cntB s r ∧ cntB s r ≤ 40 := by
  unfold cntB
  by_cases c : r < s 2
  · rw [ite_t c]; exact ⟨nmB_nn (by have := ltB_b (s := s) (r := r); omega), nmB_40 gs fw h1 c⟩
  · rw [ite_f c]; omega
theorem BL3.spot (L3 : BL3 h s) (h1 : 0 ≤ r) (h2 : r < 3) (h3 : r < s 2) (p0 : 0 ≤ p) (p1 : p < cntB s r) : (0 ≤ rd h 82 (40 * r + p) ∧ rd h 82 (40 * r + p) < ltB s r) ∧ hdB s r (rd h 82 (40 * r + p)) ∧ nmB s r (rd h 82 (40 * r + p)) = p := by
  unfold cntB at p1
  rw [ite_t h3] at p1
  have lb := ltB_b (s := s) (r := r)
  obtain ⟨q, q0, q1, q2, q3⟩ := nmB_surj (s := s) (r := r) (ltB s r).toNat p p0 (by rw [show ((ltB s r).toNat : Int) = ltB s r by omega]; exact p1)
  have q0 : (0 : Int) ≤ q := by omega
  have e := ((L3 r h1 h2).1 h3).ss q q0 (by omega) q2
  rw [q3] at e
  rw [e]
  exact ⟨⟨q0, by omega⟩, q2, q3⟩
theorem rchV_99 (gs : GS s) (v9 : ∀ k, 0 ≤ k → k < s 4 → s (135 + 4 * k + 2) ≤ 9) : (rchV s a b = 99 ∧ ¬ ropd s a b) ∨ ((0 ≤ rchV s a b ∧ rchV s a b ≤ 9) ∧ (0 ≤ a ∧ a < s 2) ∧ (0 ≤ b ∧ b < s 2) ∧ ∃ k, 0 ≤ k ∧ k < s 4 ∧ ((s (135 + 4 * k) = a ∧ s (135 + 4 * k + 1) = b) ∨ (s (135 + 4 * k) = b ∧ s (135 + 4 * k + 1) = a)) ∧ rchV s a b = s (135 + 4 * k + 2)) := by
  obtain ⟨⟨hS, n0, n1, n2, n3, n4, n5, hK, hW⟩, hD, _⟩ := gs
  have b4 := hS 4 (by omega) (by omega)
  unfold rchV
  rcases fstI_spec (P := fun k => (s (135 + 4 * k) = a ∧ s (135 + 4 * k + 1) = b) ∨ (s (135 + 4 * k) = b ∧ s (135 + 4 * k + 1) = a)) (s 4).toNat 0 (by omega) with ⟨u1, u2⟩ | ⟨u1, u2, u3, u4⟩
  · rw [if_pos u1]
    exact Or.inl ⟨rfl, fun ⟨k, k0, k1, k2⟩ => u2 k k0 (by omega) k2⟩
  · rw [if_neg (by omega)]
    generalize hk : fstI (fun k => (s (135 + 4 * k) = a ∧ s (135 + 4 * k + 1) = b) ∨ (s (135 + 4 * k) = b ∧ s (135 + 4 * k + 1) = a)) (s 4).toNat 0 = k at u1 u2 u3 u4
    have kk := hK k u1 (by omega)
    have s2 := hS (135 + 4 * k + 2) (by omega) (by omega)
    have v := v9 k u1 (by omega)
    have u3 : (s (135 + 4 * k) = a ∧ s (135 + 4 * k + 1) = b) ∨ (s (135 + 4 * k) = b ∧ s (135 + 4 * k + 1) = a) := u3
    exact Or.inr ⟨by omega, by omega, by omega, k, u1, by omega, u3, rfl⟩
theorem tgD.cg {D' : Int → Int → Prop} (T : tgD h0 h s a b D) (e : ∀ p q, 0 ≤ p → 0 ≤ q → (D p q ↔ D' p q)) : tgD h0 h s a b D' := fun p q p0 p1 q0 q1 => by
  have := T p q p0 p1 q0 q1
  rw [e p q p0 q0] at this
  exact this
theorem tgD.no (T : tgD h0 h s a b D) (no : ¬ okN h0 s a b p q) : tgD h0 h s a b (fun p' q' => D p' q' ∨ (p' = p ∧ q' = q)) := fun p' q' p0 p1 q0 q1 => by
  have t := T p' q' p0 p1 q0 q1
  have e : (D p' q' ∧ okN h0 s a b p' q') ↔ ((D p' q' ∨ (p' = p ∧ q' = q)) ∧ okN h0 s a b p' q') := ⟨fun u => ⟨Or.inl u.1, u.2⟩, fun u => ⟨u.1.elim id fun w => by rw [w.1, w.2] at u; exact absurd u.2 no, u.2⟩⟩
  rw [e] at t
  exact t
theorem tgD.add (T : tgD h0 h s a b D) (ok : okN h0 s a b p q) (hab : 0 ≤ a ∧ a < b ∧ b < 3) (p0 : 0 ≤ p ∧ p < 40) (q0 : 0 ≤ q ∧ q < 40) (e1 : h1 = hJ h 86 ((3 * a + b) * 40 + p).toNat (aJ h 86 ((3 * a + b) * 40 + p).toNat ||| ((1 : Int64) <<< ((iI q).toInt64 &&& 63)))) (e2 : h2 = hJ h1 86 ((3 * b + a) * 40 + q).toNat (aJ h1 86 ((3 * b + a) * 40 + q).toNat ||| ((1 : Int64) <<< ((iI p).toInt64 &&& 63)))) : tgD h0 h2 s a b (fun p' q' => D p' q' ∨ (p' = p ∧ q' = q)) := fun p' q' u0 u1 w0 w1 => by
  have t := T p' q' u0 u1 w0 w1
  have j1 : ∀ n : Nat, aJ h1 86 n = if n = ((3 * a + b) * 40 + p).toNat then aJ h 86 ((3 * a + b) * 40 + p).toNat ||| ((1 : Int64) <<< ((iI q).toInt64 &&& 63)) else aJ h 86 n := fun n => by rw [e1, aJ_hJ]
  have j2 : ∀ n : Nat, aJ h2 86 n = if n = ((3 * b + a) * 40 + q).toNat then aJ h1 86 ((3 * b + a) * 40 + q).toNat ||| ((1 : Int64) <<< ((iI p).toInt64 &&& 63)) else aJ h1 86 n := fun n => by rw [e2, aJ_hJ]
  have key : ((D p' q' ∧ okN h0 s a b p' q') ∨ (p' = p ∧ q' = q)) ↔ ((D p' q' ∨ (p' = p ∧ q' = q)) ∧ okN h0 s a b p' q') := ⟨fun u => u.elim (fun v => ⟨Or.inl v.1, v.2⟩) (fun v => ⟨Or.inr v, by rw [v.1, v.2]; exact ok⟩), fun u => u.1.elim (fun v => Or.inl ⟨v, u.2⟩) Or.inr⟩
  rw [← key]
  refine ⟨?_, ?_⟩
  · rw [j2, if_neg (by omega), j1]
    by_cases cp : p' = p
    · rw [if_pos (by rw [cp]), zb_or, zb_one1 q0.1 (by omega) w0 (by omega), ← cp, t.1]
      exact ⟨fun u => u.elim Or.inl fun v => Or.inr ⟨rfl, v⟩, fun u => u.elim Or.inl fun v => Or.inr v.2⟩
    · rw [if_neg (by omega), t.1]
      exact ⟨Or.inl, fun u => u.elim id fun v => absurd v.1 cp⟩
  · rw [j2]
    by_cases cq : q' = q
    · rw [if_pos (by rw [cq]), zb_or, zb_one1 p0.1 (by omega) u0 (by omega), j1, if_neg (by omega), ← cq, t.2]
      exact ⟨fun u => u.elim Or.inl fun v => Or.inr ⟨v, rfl⟩, fun u => u.elim Or.inl fun v => Or.inr v.1⟩
    · rw [if_neg (by omega), j1, if_neg (by omega), t.2]
      exact ⟨Or.inl, fun u => u.elim id fun v => absurd v.2 cq⟩
def tgO (h h' : AH) (a b : Int) : Prop := ∀ j : Int, 0 ≤ j → (j < (3 * a + b) * 40 ∨ (3 * a + b) * 40 + 40 ≤ j) → (j < (3 * b + a) * 40 ∨ (3 * b + a) * 40 + 40 ≤ j) → aJ h' 86 j.toNat = aJ h 86 j.toNat
theorem c_matchTwo (S : CSh h) (H : LB h la) (L : LR h la s) (hl : la = 5 ∨ la = 32) (pz : aP h 80 0 = some la) (gs : GS s) (fw : few s) (v9 : ∀ k, 0 ≤ k → k < s 4 → s (135 + 4 * k + 2) ≤ 9) (L3 : BL3 h s) (hab : 0 ≤ a ∧ a < b ∧ b < 3) (zr : tgD h h s a b (fun _ _ => False)) (K : ∀ h', Fr [] [86] [] h h' → tgD h h' s a b (fun p q => p < cntB s a ∧ q < cntB s b) → tgO h h' a b → postV h') : wp_X0_matchTwo h 80 (iI a) (iI b) postV := by
  have hS := gs.1.1
  have hD := gs.2.1
  have n2 : s 2 ≤ 8 := gs.1.2.2.2.1
  have n4 : s 4 ≤ 8 := gs.1.2.2.2.2.2.1
  have b4 := hS 4 (by omega) (by omega)
  have rk := rchV_99 (a := a) (b := b) gs v9
  have ca := cntB_b (r := a) gs fw hab.1 (by omega)
  have cb := cntB_b (r := b) gs fw (by omega) hab.2.2
  have ea := L3.cnt hab.1 (show a < 3 by omega)
  have eb := L3.cnt (show 0 ≤ b by omega) hab.2.2
  have rb : 0 ≤ rchV s a b ∧ rchV s a b ≤ 99 := by rcases rk with u | u <;> omega
  have hK : ∀ k, 0 ≤ k → k < s 4 → (0 ≤ s (135 + 4 * k) ∧ s (135 + 4 * k) < 8) ∧ (0 ≤ s (135 + 4 * k + 1) ∧ s (135 + 4 * k + 1) < 8) ∧ 0 ≤ s (135 + 4 * k + 2) ∧ s (135 + 4 * k + 2) < 99 := fun k k0 k1 => by
    have u := gs.1.2.2.2.2.2.2.2.1 k k0 k1
    have w := hS (135 + 4 * k + 2) (by omega) (by omega)
    have v := v9 k k0 k1
    omega
  unfold wp_X0_matchTwo
  simp (disch := omega) only [CSh.o0 S, CSh.o1 S, CSh.o2 S, CSh.o3 S, CSh.o26 S, CSh.o27 S, CSh.o29 S, CSh.o30 S, CSh.o31 S, CSh.o56 S, CSh.o57 S, CSh.o58 S, CSh.o62 S, CSh.o66 S, CSh.o70 S, CSh.o74 S, CSh.o75 S, CSh.o77 S, CSh.o79 S, CSh.o80 S, CSh.o81 S, CSh.o82 S, CSh.o83 S, CSh.o84 S, CSh.o85 S, CSh.o86 S, CSh.o87 S, CSh.o88 S, CSh.o53 S, CSh.o54 S, CSh.o55 S, CSh.o59 S, CSh.o60 S, CSh.o61 S, CSh.o63 S, CSh.o64 S, CSh.o65 S, CSh.o67 S, CSh.o68 S, CSh.o69 S, CSh.o71 S, CSh.o72 S, CSh.o73 S, CSh.o89 S, CSh.o90 S, CSh.o91 S, CSh.l1 S, CSh.l3 S, CSh.l27 S, CSh.l29 S, CSh.l30 S, CSh.l56 S, CSh.l57 S, CSh.l58 S, CSh.l75 S, CSh.l77 S, CSh.l79 S, CSh.l81 S, CSh.l82 S, CSh.l83 S, CSh.l84 S, CSh.l85 S, CSh.l86 S, CSh.l87 S, CSh.l88 S, CSh.l54 S, CSh.l55 S, CSh.l60 S, CSh.l61 S, CSh.l64 S, CSh.l65 S, CSh.l68 S, CSh.l69 S, CSh.l72 S, CSh.l73 S, CSh.l90 S, CSh.l91 S, CSh.p0_0 S, CSh.p0_3 S, CSh.p0_4 S, CSh.p0_5 S, CSh.p0_6 S, CSh.p0_7 S, CSh.p0_8 S, CSh.p0_9 S, CSh.p0_10 S, CSh.p0_14 S, CSh.p2_0 S, CSh.p26_0 S, CSh.p26_13 S, CSh.p26_14 S, CSh.p31_1 S, CSh.p31_3 S, CSh.p31_4 S, CSh.p62_0 S, CSh.p66_0 S, CSh.p70_0 S, CSh.p74_0 S, CSh.p74_1 S, CSh.p74_6 S, CSh.p74_7 S, CSh.p74_10 S, CSh.p80_1 S, CSh.p80_2 S, CSh.p80_3 S, CSh.p80_4 S, CSh.p80_5 S, CSh.p80_6 S, CSh.p80_7 S, CSh.p80_8 S, CSh.p53_1 S, CSh.p53_2 S, CSh.p59_1 S, CSh.p59_2 S, CSh.p63_1 S, CSh.p63_2 S, CSh.p67_1 S, CSh.p67_2 S, CSh.p71_1 S, CSh.p71_2 S, CSh.p89_1 S, CSh.p89_2 S, pz, LB.o0 H, LB.p14 H, LB.o10 H, -Int.reduceToNat, -Int32.reduceToNatClampNeg, il0, il1, il2, il3, il4, il5, il6, il7, il8, il9, il10, il11, il12, il13, il14, il15, il16, il17, il18, il19, il20, il21, il22, il23, il24, il25, il26, il27, il28, il29, il30, il31, il32, il35, il36, il38, il40, il42, il43, il44, il45, il46, il47, il48, il49, il50, il51, il52, il57, il59, il60, il63, il64, il75, il80, il95, il96, il97, il98, il99, il100, il120, il122, il123, il127, il128, il135, il167, il175, il225, il249, il250, il255, il256, il360, il370, il384, il600, il700, il740, il900, il940, il1024, il1600, il4800, il64000, il125000, il262143, il1000000000, ob, Option.some.injEq, exists_eq_left', exists_eq_left, true_and, and_true, fqI, fqJ, eq_self, true_or, or_true, bP_0, bP_0i, npP, bP_1i, bP_b, not_true_eq_false, not_false_eq_true, false_implies, true_implies, implies_true, Classical.not_not, and_self]
  refine c_reach2 H L (by omega) hK hab.1 (by omega) (by omega) (by omega) ?_
  -- one pair
  have pair : ∀ {K16 : AH → Nat → Int32 → Int32 → Int32 → Int32 → Prop} {K30 : AH → Nat → Int32 → Int32 → Int32 → Int32 → Int32 → Prop} (p q : Int) (g : AH) (D : Int → Int → Prop), 0 ≤ p → p < cntB s a → 0 ≤ q → q < cntB s b → Fr [] [86] [] h g → tgD h g s a b D → tgO h g a b → (∀ g', Fr [] [86] [] h g' → tgD h g' s a b (fun p' q' => D p' q' ∨ (p' = p ∧ q' = q)) → tgO h g' a b → K30 g' 80 (iI a) (iI b) (iI (rchV s a b)) (iI p) (iI (q + 1))) → wb_X0_matchTwo_30 K16 K30 g 80 (iI a) (iI b) (iI (rchV s a b)) (iI p) (iI q) postV := by
    intro K16 K30 p q g D p0 p1 q0 q1 Fg T O nx
    have Sg := S.gr Fg.gr
    have Hg : LB g la := H.gr Fg.gr (hl.imp_right Or.inl)
    have Lg : LR g la s := L.fr Fg (fun j hj => List.not_mem_nil) (fun j hj => by simp; omega)
    have pg : aP g 80 0 = some la := by rw [Fg.aPe]; exact pz
    have eb' : rd g 81 b = cntB s b := by rw [Fg.row (by simp)]; exact eb
    have e83 : aJ g 83 = aJ h 83 := Fg.2.2.2.2.2.1 83 (by simp)
    have e82 : rd g 82 = rd h 82 := Fg.row (by simp)
    have mark : okN h s a b p q → wb_X0_matchTwo_112 K16 K30 g 80 (iI a) (iI b) (iI (rchV s a b)) (iI p) (iI q) postV := by
      intro ok
      unfold wb_X0_matchTwo_112 wb_X0_matchTwo_158
      simp (disch := omega) only [CSh.o0 Sg, CSh.o1 Sg, CSh.o2 Sg, CSh.o3 Sg, CSh.o26 Sg, CSh.o27 Sg, CSh.o29 Sg, CSh.o30 Sg, CSh.o31 Sg, CSh.o56 Sg, CSh.o57 Sg, CSh.o58 Sg, CSh.o62 Sg, CSh.o66 Sg, CSh.o70 Sg, CSh.o74 Sg, CSh.o75 Sg, CSh.o77 Sg, CSh.o79 Sg, CSh.o80 Sg, CSh.o81 Sg, CSh.o82 Sg, CSh.o83 Sg, CSh.o84 Sg, CSh.o85 Sg, CSh.o86 Sg, CSh.o87 Sg, CSh.o88 Sg, CSh.o53 Sg, CSh.o54 Sg, CSh.o55 Sg, CSh.o59 Sg, CSh.o60 Sg, CSh.o61 Sg, CSh.o63 Sg, CSh.o64 Sg, CSh.o65 Sg, CSh.o67 Sg, CSh.o68 Sg, CSh.o69 Sg, CSh.o71 Sg, CSh.o72 Sg, CSh.o73 Sg, CSh.o89 Sg, CSh.o90 Sg, CSh.o91 Sg, CSh.l1 Sg, CSh.l3 Sg, CSh.l27 Sg, CSh.l29 Sg, CSh.l30 Sg, CSh.l56 Sg, CSh.l57 Sg, CSh.l58 Sg, CSh.l75 Sg, CSh.l77 Sg, CSh.l79 Sg, CSh.l81 Sg, CSh.l82 Sg, CSh.l83 Sg, CSh.l84 Sg, CSh.l85 Sg, CSh.l86 Sg, CSh.l87 Sg, CSh.l88 Sg, CSh.l54 Sg, CSh.l55 Sg, CSh.l60 Sg, CSh.l61 Sg, CSh.l64 Sg, CSh.l65 Sg, CSh.l68 Sg, CSh.l69 Sg, CSh.l72 Sg, CSh.l73 Sg, CSh.l90 Sg, CSh.l91 Sg, CSh.p0_0 Sg, CSh.p0_3 Sg, CSh.p0_4 Sg, CSh.p0_5 Sg, CSh.p0_6 Sg, CSh.p0_7 Sg, CSh.p0_8 Sg, CSh.p0_9 Sg, CSh.p0_10 Sg, CSh.p0_14 Sg, CSh.p2_0 Sg, CSh.p26_0 Sg, CSh.p26_13 Sg, CSh.p26_14 Sg, CSh.p31_1 Sg, CSh.p31_3 Sg, CSh.p31_4 Sg, CSh.p62_0 Sg, CSh.p66_0 Sg, CSh.p70_0 Sg, CSh.p74_0 Sg, CSh.p74_1 Sg, CSh.p74_6 Sg, CSh.p74_7 Sg, CSh.p74_10 Sg, CSh.p80_1 Sg, CSh.p80_2 Sg, CSh.p80_3 Sg, CSh.p80_4 Sg, CSh.p80_5 Sg, CSh.p80_6 Sg, CSh.p80_7 Sg, CSh.p80_8 Sg, CSh.p53_1 Sg, CSh.p53_2 Sg, CSh.p59_1 Sg, CSh.p59_2 Sg, CSh.p63_1 Sg, CSh.p63_2 Sg, CSh.p67_1 Sg, CSh.p67_2 Sg, CSh.p71_1 Sg, CSh.p71_2 Sg, CSh.p89_1 Sg, CSh.p89_2 Sg, -Int.reduceToNat, -Int32.reduceToNatClampNeg, il0, il1, il2, il3, il4, il5, il6, il7, il8, il9, il10, il11, il12, il13, il14, il15, il16, il17, il18, il19, il20, il21, il22, il23, il24, il25, il26, il27, il28, il29, il30, il31, il32, il35, il36, il38, il40, il42, il43, il44, il45, il46, il47, il48, il49, il50, il51, il52, il57, il59, il60, il63, il64, il75, il80, il95, il96, il97, il98, il99, il100, il120, il122, il123, il127, il128, il135, il167, il175, il225, il249, il250, il255, il256, il360, il370, il384, il600, il700, il740, il900, il940, il1024, il1600, il4800, il64000, il125000, il262143, il1000000000, iI_toInt, iI_add, iI_sub, iI_mul, iI_neg, iI_lt, iI_le, iI_eq, iI_n, iI_in, iI_div, iI_mod, iI_shm, iI_and1, iI_and7, iI_and63, iI_shr3, iI_shr6, rd_I, ob, Option.some.injEq, exists_eq_left', exists_eq_left, true_and, and_true, fqI, fqJ, eq_self, true_or, or_true, bP_0, bP_0i, npP, bP_1i, bP_b, not_true_eq_false, not_false_eq_true, false_implies, true_implies, implies_true, Classical.not_not, and_self]
      intro g1 w1
      have f1 : Fr [] [86] [] g g1 := by rw [w1]; exact fr_hJ
      have S1 := Sg.gr f1.gr
      simp (disch := omega) only [CSh.o0 S1, CSh.o1 S1, CSh.o2 S1, CSh.o3 S1, CSh.o26 S1, CSh.o27 S1, CSh.o29 S1, CSh.o30 S1, CSh.o31 S1, CSh.o56 S1, CSh.o57 S1, CSh.o58 S1, CSh.o62 S1, CSh.o66 S1, CSh.o70 S1, CSh.o74 S1, CSh.o75 S1, CSh.o77 S1, CSh.o79 S1, CSh.o80 S1, CSh.o81 S1, CSh.o82 S1, CSh.o83 S1, CSh.o84 S1, CSh.o85 S1, CSh.o86 S1, CSh.o87 S1, CSh.o88 S1, CSh.o53 S1, CSh.o54 S1, CSh.o55 S1, CSh.o59 S1, CSh.o60 S1, CSh.o61 S1, CSh.o63 S1, CSh.o64 S1, CSh.o65 S1, CSh.o67 S1, CSh.o68 S1, CSh.o69 S1, CSh.o71 S1, CSh.o72 S1, CSh.o73 S1, CSh.o89 S1, CSh.o90 S1, CSh.o91 S1, CSh.l1 S1, CSh.l3 S1, CSh.l27 S1, CSh.l29 S1, CSh.l30 S1, CSh.l56 S1, CSh.l57 S1, CSh.l58 S1, CSh.l75 S1, CSh.l77 S1, CSh.l79 S1, CSh.l81 S1, CSh.l82 S1, CSh.l83 S1, CSh.l84 S1, CSh.l85 S1, CSh.l86 S1, CSh.l87 S1, CSh.l88 S1, CSh.l54 S1, CSh.l55 S1, CSh.l60 S1, CSh.l61 S1, CSh.l64 S1, CSh.l65 S1, CSh.l68 S1, CSh.l69 S1, CSh.l72 S1, CSh.l73 S1, CSh.l90 S1, CSh.l91 S1, CSh.p0_0 S1, CSh.p0_3 S1, CSh.p0_4 S1, CSh.p0_5 S1, CSh.p0_6 S1, CSh.p0_7 S1, CSh.p0_8 S1, CSh.p0_9 S1, CSh.p0_10 S1, CSh.p0_14 S1, CSh.p2_0 S1, CSh.p26_0 S1, CSh.p26_13 S1, CSh.p26_14 S1, CSh.p31_1 S1, CSh.p31_3 S1, CSh.p31_4 S1, CSh.p62_0 S1, CSh.p66_0 S1, CSh.p70_0 S1, CSh.p74_0 S1, CSh.p74_1 S1, CSh.p74_6 S1, CSh.p74_7 S1, CSh.p74_10 S1, CSh.p80_1 S1, CSh.p80_2 S1, CSh.p80_3 S1, CSh.p80_4 S1, CSh.p80_5 S1, CSh.p80_6 S1, CSh.p80_7 S1, CSh.p80_8 S1, CSh.p53_1 S1, CSh.p53_2 S1, CSh.p59_1 S1, CSh.p59_2 S1, CSh.p63_1 S1, CSh.p63_2 S1, CSh.p67_1 S1, CSh.p67_2 S1, CSh.p71_1 S1, CSh.p71_2 S1, CSh.p89_1 S1, CSh.p89_2 S1, -Int.reduceToNat, -Int32.reduceToNatClampNeg, il0, il1, il2, il3, il4, il5, il6, il7, il8, il9, il10, il11, il12, il13, il14, il15, il16, il17, il18, il19, il20, il21, il22, il23, il24, il25, il26, il27, il28, il29, il30, il31, il32, il35, il36, il38, il40, il42, il43, il44, il45, il46, il47, il48, il49, il50, il51, il52, il57, il59, il60, il63, il64, il75, il80, il95, il96, il97, il98, il99, il100, il120, il122, il123, il127, il128, il135, il167, il175, il225, il249, il250, il255, il256, il360, il370, il384, il600, il700, il740, il900, il940, il1024, il1600, il4800, il64000, il125000, il262143, il1000000000, iI_toInt, iI_add, iI_sub, iI_mul, iI_neg, iI_lt, iI_le, iI_eq, iI_n, iI_in, iI_div, iI_mod, iI_shm, iI_and1, iI_and7, iI_and63, iI_shr3, iI_shr6, rd_I, ob, Option.some.injEq, exists_eq_left', exists_eq_left, true_and, and_true, fqI, fqJ, eq_self, true_or, or_true, bP_0, bP_0i, npP, bP_1i, bP_b, not_true_eq_false, not_false_eq_true, false_implies, true_implies, implies_true, Classical.not_not, and_self]
      intro g2 w2
      have f2 : Fr [] [86] [] g1 g2 := by rw [w2]; exact fr_hJ
      rw [show a * 3 + b = 3 * a + b by omega] at w1
      rw [show b * 3 + a = 3 * b + a by omega] at w2
      refine nx g2 (Fg.trans (f1.trans f2)) (T.add ok hab ⟨p0, by omega⟩ ⟨q0, by omega⟩ w1 w2) fun j j0 c1 c2 => ?_
      rw [w2, aJ_hJ, if_neg (by omega), w1, aJ_hJ, if_neg (by omega)]
      exact O j j0 c1 c2
    have skip : ¬ okN h s a b p q → wb_X0_matchTwo_158 K16 K30 g 80 (iI a) (iI b) (iI (rchV s a b)) (iI p) (iI q) postV := by
      intro no
      unfold wb_X0_matchTwo_158
      simp (disch := omega) only [-Int.reduceToNat, -Int32.reduceToNatClampNeg, il0, il1, il2, il3, il4, il5, il6, il7, il8, il9, il10, il11, il12, il13, il14, il15, il16, il17, il18, il19, il20, il21, il22, il23, il24, il25, il26, il27, il28, il29, il30, il31, il32, il35, il36, il38, il40, il42, il43, il44, il45, il46, il47, il48, il49, il50, il51, il52, il57, il59, il60, il63, il64, il75, il80, il95, il96, il97, il98, il99, il100, il120, il122, il123, il127, il128, il135, il167, il175, il225, il249, il250, il255, il256, il360, il370, il384, il600, il700, il740, il900, il940, il1024, il1600, il4800, il64000, il125000, il262143, il1000000000, iI_toInt, iI_add, iI_sub, iI_mul, iI_neg, iI_lt, iI_le, iI_eq, iI_n, iI_in, iI_div, iI_mod, iI_shm, iI_and1, iI_and7, iI_and63, iI_shr3, iI_shr6, rd_I, ob, Option.some.injEq, exists_eq_left', exists_eq_left, true_and, and_true, fqI, fqJ, eq_self, true_or, or_true, bP_0, bP_0i, npP, bP_1i, bP_b, not_true_eq_false, not_false_eq_true, false_implies, true_implies, implies_true, Classical.not_not, and_self]
      exact nx g Fg (T.no no) O
    unfold wb_X0_matchTwo_30
    simp (disch := omega) only [CSh.o0 Sg, CSh.o1 Sg, CSh.o2 Sg, CSh.o3 Sg, CSh.o26 Sg, CSh.o27 Sg, CSh.o29 Sg, CSh.o30 Sg, CSh.o31 Sg, CSh.o56 Sg, CSh.o57 Sg, CSh.o58 Sg, CSh.o62 Sg, CSh.o66 Sg, CSh.o70 Sg, CSh.o74 Sg, CSh.o75 Sg, CSh.o77 Sg, CSh.o79 Sg, CSh.o80 Sg, CSh.o81 Sg, CSh.o82 Sg, CSh.o83 Sg, CSh.o84 Sg, CSh.o85 Sg, CSh.o86 Sg, CSh.o87 Sg, CSh.o88 Sg, CSh.o53 Sg, CSh.o54 Sg, CSh.o55 Sg, CSh.o59 Sg, CSh.o60 Sg, CSh.o61 Sg, CSh.o63 Sg, CSh.o64 Sg, CSh.o65 Sg, CSh.o67 Sg, CSh.o68 Sg, CSh.o69 Sg, CSh.o71 Sg, CSh.o72 Sg, CSh.o73 Sg, CSh.o89 Sg, CSh.o90 Sg, CSh.o91 Sg, CSh.l1 Sg, CSh.l3 Sg, CSh.l27 Sg, CSh.l29 Sg, CSh.l30 Sg, CSh.l56 Sg, CSh.l57 Sg, CSh.l58 Sg, CSh.l75 Sg, CSh.l77 Sg, CSh.l79 Sg, CSh.l81 Sg, CSh.l82 Sg, CSh.l83 Sg, CSh.l84 Sg, CSh.l85 Sg, CSh.l86 Sg, CSh.l87 Sg, CSh.l88 Sg, CSh.l54 Sg, CSh.l55 Sg, CSh.l60 Sg, CSh.l61 Sg, CSh.l64 Sg, CSh.l65 Sg, CSh.l68 Sg, CSh.l69 Sg, CSh.l72 Sg, CSh.l73 Sg, CSh.l90 Sg, CSh.l91 Sg, CSh.p0_0 Sg, CSh.p0_3 Sg, CSh.p0_4 Sg, CSh.p0_5 Sg, CSh.p0_6 Sg, CSh.p0_7 Sg, CSh.p0_8 Sg, CSh.p0_9 Sg, CSh.p0_10 Sg, CSh.p0_14 Sg, CSh.p2_0 Sg, CSh.p26_0 Sg, CSh.p26_13 Sg, CSh.p26_14 Sg, CSh.p31_1 Sg, CSh.p31_3 Sg, CSh.p31_4 Sg, CSh.p62_0 Sg, CSh.p66_0 Sg, CSh.p70_0 Sg, CSh.p74_0 Sg, CSh.p74_1 Sg, CSh.p74_6 Sg, CSh.p74_7 Sg, CSh.p74_10 Sg, CSh.p80_1 Sg, CSh.p80_2 Sg, CSh.p80_3 Sg, CSh.p80_4 Sg, CSh.p80_5 Sg, CSh.p80_6 Sg, CSh.p80_7 Sg, CSh.p80_8 Sg, CSh.p53_1 Sg, CSh.p53_2 Sg, CSh.p59_1 Sg, CSh.p59_2 Sg, CSh.p63_1 Sg, CSh.p63_2 Sg, CSh.p67_1 Sg, CSh.p67_2 Sg, CSh.p71_1 Sg, CSh.p71_2 Sg, CSh.p89_1 Sg, CSh.p89_2 Sg, pg, LB.o0 Hg, eb', lgc, e83, e82, -Int.reduceToNat, -Int32.reduceToNatClampNeg, il0, il1, il2, il3, il4, il5, il6, il7, il8, il9, il10, il11, il12, il13, il14, il15, il16, il17, il18, il19, il20, il21, il22, il23, il24, il25, il26, il27, il28, il29, il30, il31, il32, il35, il36, il38, il40, il42, il43, il44, il45, il46, il47, il48, il49, il50, il51, il52, il57, il59, il60, il63, il64, il75, il80, il95, il96, il97, il98, il99, il100, il120, il122, il123, il127, il128, il135, il167, il175, il225, il249, il250, il255, il256, il360, il370, il384, il600, il700, il740, il900, il940, il1024, il1600, il4800, il64000, il125000, il262143, il1000000000, iI_toInt, iI_add, iI_sub, iI_mul, iI_neg, iI_lt, iI_le, iI_eq, iI_n, iI_in, iI_div, iI_mod, iI_shm, iI_and1, iI_and7, iI_and63, iI_shr3, iI_shr6, rd_I, ob, Option.some.injEq, exists_eq_left', exists_eq_left, true_and, and_true, fqI, fqJ, eq_self, true_or, or_true, bP_0, bP_0i, npP, bP_1i, bP_b, not_true_eq_false, not_false_eq_true, false_implies, true_implies, implies_true, Classical.not_not, and_self]
    rw [show a * 40 + p = 40 * a + p by omega, show b * 40 + q = 40 * b + q by omega]
    refine ⟨fun u => by omega, fun _ => ⟨fun nd => skip fun u => nd u.1, fun dj => ⟨fun r99 => mark ⟨dj, Or.inl r99⟩, fun n99 => ?_⟩⟩⟩
    rcases rk with u | ⟨u1, u2, u3, u4⟩
    · exact absurd u.1 n99
    have sa := L3.spot hab.1 (by omega) u2.2 p0 p1
    have sb' := L3.spot (show 0 ≤ b by omega) hab.2.2 u3.2 q0 q1
    have la' := ltB_b (s := s) (r := a)
    have lb' := ltB_b (s := s) (r := b)
    rw [c_between Hg Lg hD n2 hab.1 u2.2 sa.1.1 (by omega) (by omega) u3.2 sb'.1.1 (by omega)]
    have gn : gsp (rd h 82 (40 * a + p) % 8) (rd h 82 (40 * a + p) / 8 % 8) (wsp s a (rd h 82 (40 * a + p))) (hsp s a (rd h 82 (40 * a + p))) (rd h 82 (40 * b + q) % 8) (rd h 82 (40 * b + q) / 8 % 8) (wsp s b (rd h 82 (40 * b + q))) (hsp s b (rd h 82 (40 * b + q))) = gspN h s a b p q := rfl
    rw [gn]
    have wa := wsp_bd (rd h 82 (40 * a + p)) hD hab.1 u2.2
    have wb := wsp_bd (rd h 82 (40 * b + q)) hD (show 0 ≤ b by omega) u3.2
    have gb : 0 ≤ gspN h s a b p q ∧ gspN h s a b p q ≤ 1000 := by
      unfold gspN gsp mxz
      (repeat' split) <;> omega
    refine ⟨fun lt => skip fun u => ?_, fun nl => mark ⟨dj, Or.inr ?_⟩⟩
    · rw [iI_lt (by omega) (by omega) (by omega) (by omega)] at lt
      rcases u.2 with w | w <;> omega
    · rw [iI_lt (by omega) (by omega) (by omega) (by omega)] at nl
      omega
  refine lf_for (W := fun k (g : AH) p => wl_X0_matchTwo_16 postV k g 80 (iI a) (iI b) (iI (rchV s a b)) (iI p)) (lo := 0) (hi := cntB s a) (fun p g => Fr [] [86] [] h g ∧ tgD h g s a b (fun p' q' => p' < p ∧ q' < cntB s b) ∧ tgO h g a b) ca.1 (fun k g p p0 p1 J nx => ?_) (fun k g J => ?_) h ⟨(Fr.refl h).mono (by simp) (by simp) (by simp), zr.cg fun p' q' u w => ⟨fun f => f.elim, fun f => by omega⟩, fun j _ _ _ => rfl⟩
  · obtain ⟨Fg, T, O⟩ := J
    show wb_X0_matchTwo_16 (wl_X0_matchTwo_16 postV k) g 80 (iI a) (iI b) (iI (rchV s a b)) (iI p) postV
    have Sg := S.gr Fg.gr
    have ea' : rd g 81 a = cntB s a := by rw [Fg.row (by simp)]; exact ea
    unfold wb_X0_matchTwo_16
    simp (disch := omega) only [CSh.o0 Sg, CSh.o1 Sg, CSh.o2 Sg, CSh.o3 Sg, CSh.o26 Sg, CSh.o27 Sg, CSh.o29 Sg, CSh.o30 Sg, CSh.o31 Sg, CSh.o56 Sg, CSh.o57 Sg, CSh.o58 Sg, CSh.o62 Sg, CSh.o66 Sg, CSh.o70 Sg, CSh.o74 Sg, CSh.o75 Sg, CSh.o77 Sg, CSh.o79 Sg, CSh.o80 Sg, CSh.o81 Sg, CSh.o82 Sg, CSh.o83 Sg, CSh.o84 Sg, CSh.o85 Sg, CSh.o86 Sg, CSh.o87 Sg, CSh.o88 Sg, CSh.o53 Sg, CSh.o54 Sg, CSh.o55 Sg, CSh.o59 Sg, CSh.o60 Sg, CSh.o61 Sg, CSh.o63 Sg, CSh.o64 Sg, CSh.o65 Sg, CSh.o67 Sg, CSh.o68 Sg, CSh.o69 Sg, CSh.o71 Sg, CSh.o72 Sg, CSh.o73 Sg, CSh.o89 Sg, CSh.o90 Sg, CSh.o91 Sg, CSh.l1 Sg, CSh.l3 Sg, CSh.l27 Sg, CSh.l29 Sg, CSh.l30 Sg, CSh.l56 Sg, CSh.l57 Sg, CSh.l58 Sg, CSh.l75 Sg, CSh.l77 Sg, CSh.l79 Sg, CSh.l81 Sg, CSh.l82 Sg, CSh.l83 Sg, CSh.l84 Sg, CSh.l85 Sg, CSh.l86 Sg, CSh.l87 Sg, CSh.l88 Sg, CSh.l54 Sg, CSh.l55 Sg, CSh.l60 Sg, CSh.l61 Sg, CSh.l64 Sg, CSh.l65 Sg, CSh.l68 Sg, CSh.l69 Sg, CSh.l72 Sg, CSh.l73 Sg, CSh.l90 Sg, CSh.l91 Sg, CSh.p0_0 Sg, CSh.p0_3 Sg, CSh.p0_4 Sg, CSh.p0_5 Sg, CSh.p0_6 Sg, CSh.p0_7 Sg, CSh.p0_8 Sg, CSh.p0_9 Sg, CSh.p0_10 Sg, CSh.p0_14 Sg, CSh.p2_0 Sg, CSh.p26_0 Sg, CSh.p26_13 Sg, CSh.p26_14 Sg, CSh.p31_1 Sg, CSh.p31_3 Sg, CSh.p31_4 Sg, CSh.p62_0 Sg, CSh.p66_0 Sg, CSh.p70_0 Sg, CSh.p74_0 Sg, CSh.p74_1 Sg, CSh.p74_6 Sg, CSh.p74_7 Sg, CSh.p74_10 Sg, CSh.p80_1 Sg, CSh.p80_2 Sg, CSh.p80_3 Sg, CSh.p80_4 Sg, CSh.p80_5 Sg, CSh.p80_6 Sg, CSh.p80_7 Sg, CSh.p80_8 Sg, CSh.p53_1 Sg, CSh.p53_2 Sg, CSh.p59_1 Sg, CSh.p59_2 Sg, CSh.p63_1 Sg, CSh.p63_2 Sg, CSh.p67_1 Sg, CSh.p67_2 Sg, CSh.p71_1 Sg, CSh.p71_2 Sg, CSh.p89_1 Sg, CSh.p89_2 Sg, ea', -Int.reduceToNat, -Int32.reduceToNatClampNeg, il0, il1, il2, il3, il4, il5, il6, il7, il8, il9, il10, il11, il12, il13, il14, il15, il16, il17, il18, il19, il20, il21, il22, il23, il24, il25, il26, il27, il28, il29, il30, il31, il32, il35, il36, il38, il40, il42, il43, il44, il45, il46, il47, il48, il49, il50, il51, il52, il57, il59, il60, il63, il64, il75, il80, il95, il96, il97, il98, il99, il100, il120, il122, il123, il127, il128, il135, il167, il175, il225, il249, il250, il255, il256, il360, il370, il384, il600, il700, il740, il900, il940, il1024, il1600, il4800, il64000, il125000, il262143, il1000000000, iI_toInt, iI_add, iI_sub, iI_mul, iI_neg, iI_lt, iI_le, iI_eq, iI_n, iI_in, iI_div, iI_mod, iI_shm, iI_and1, iI_and7, iI_and63, iI_shr3, iI_shr6, rd_I, ob, Option.some.injEq, exists_eq_left', exists_eq_left, true_and, and_true, fqI, fqJ, eq_self, true_or, or_true, bP_0, bP_0i, npP, bP_1i, bP_b, not_true_eq_false, not_false_eq_true, false_implies, true_implies, implies_true, Classical.not_not, and_self]
    refine ⟨fun u => by omega, fun _ => ?_⟩
    refine lf_for (W := fun k' (g : AH) q => wl_X0_matchTwo_30 (wl_X0_matchTwo_16 postV k) postV k' g 80 (iI a) (iI b) (iI (rchV s a b)) (iI p) (iI q)) (lo := 0) (hi := cntB s b) (fun q g => Fr [] [86] [] h g ∧ tgD h g s a b (fun p' q' => (p' < p ∧ q' < cntB s b) ∨ (p' = p ∧ q' < q)) ∧ tgO h g a b) cb.1 (fun k' g q q0 q1 J nx' => ?_) (fun k' g J => ?_) g ⟨Fg, T.cg fun p' q' u w => ⟨Or.inl, fun f => f.elim id fun f => by omega⟩, O⟩
    · obtain ⟨Fg, T, O⟩ := J
      exact pair p q g _ p0 p1 q0 q1 Fg T O fun g' F' T' O' => nx' g' ⟨F', T'.cg fun p' q' u w => by omega, O'⟩
    · obtain ⟨Fg, T, O⟩ := J
      show wb_X0_matchTwo_30 (wl_X0_matchTwo_16 postV k) (wl_X0_matchTwo_30 (wl_X0_matchTwo_16 postV k) postV k') g 80 (iI a) (iI b) (iI (rchV s a b)) (iI p) (iI (cntB s b)) postV
      have Sg := S.gr Fg.gr
      have eb' : rd g 81 b = cntB s b := by rw [Fg.row (by simp)]; exact eb
      unfold wb_X0_matchTwo_30
      simp (disch := omega) only [CSh.o0 Sg, CSh.o1 Sg, CSh.o2 Sg, CSh.o3 Sg, CSh.o26 Sg, CSh.o27 Sg, CSh.o29 Sg, CSh.o30 Sg, CSh.o31 Sg, CSh.o56 Sg, CSh.o57 Sg, CSh.o58 Sg, CSh.o62 Sg, CSh.o66 Sg, CSh.o70 Sg, CSh.o74 Sg, CSh.o75 Sg, CSh.o77 Sg, CSh.o79 Sg, CSh.o80 Sg, CSh.o81 Sg, CSh.o82 Sg, CSh.o83 Sg, CSh.o84 Sg, CSh.o85 Sg, CSh.o86 Sg, CSh.o87 Sg, CSh.o88 Sg, CSh.o53 Sg, CSh.o54 Sg, CSh.o55 Sg, CSh.o59 Sg, CSh.o60 Sg, CSh.o61 Sg, CSh.o63 Sg, CSh.o64 Sg, CSh.o65 Sg, CSh.o67 Sg, CSh.o68 Sg, CSh.o69 Sg, CSh.o71 Sg, CSh.o72 Sg, CSh.o73 Sg, CSh.o89 Sg, CSh.o90 Sg, CSh.o91 Sg, CSh.l1 Sg, CSh.l3 Sg, CSh.l27 Sg, CSh.l29 Sg, CSh.l30 Sg, CSh.l56 Sg, CSh.l57 Sg, CSh.l58 Sg, CSh.l75 Sg, CSh.l77 Sg, CSh.l79 Sg, CSh.l81 Sg, CSh.l82 Sg, CSh.l83 Sg, CSh.l84 Sg, CSh.l85 Sg, CSh.l86 Sg, CSh.l87 Sg, CSh.l88 Sg, CSh.l54 Sg, CSh.l55 Sg, CSh.l60 Sg, CSh.l61 Sg, CSh.l64 Sg, CSh.l65 Sg, CSh.l68 Sg, CSh.l69 Sg, CSh.l72 Sg, CSh.l73 Sg, CSh.l90 Sg, CSh.l91 Sg, CSh.p0_0 Sg, CSh.p0_3 Sg, CSh.p0_4 Sg, CSh.p0_5 Sg, CSh.p0_6 Sg, CSh.p0_7 Sg, CSh.p0_8 Sg, CSh.p0_9 Sg, CSh.p0_10 Sg, CSh.p0_14 Sg, CSh.p2_0 Sg, CSh.p26_0 Sg, CSh.p26_13 Sg, CSh.p26_14 Sg, CSh.p31_1 Sg, CSh.p31_3 Sg, CSh.p31_4 Sg, CSh.p62_0 Sg, CSh.p66_0 Sg, CSh.p70_0 Sg, CSh.p74_0 Sg, CSh.p74_1 Sg, CSh.p74_6 Sg, CSh.p74_7 Sg, CSh.p74_10 Sg, CSh.p80_1 Sg, CSh.p80_2 Sg, CSh.p80_3 Sg, CSh.p80_4 Sg, CSh.p80_5 Sg, CSh.p80_6 Sg, CSh.p80_7 Sg, CSh.p80_8 Sg, CSh.p53_1 Sg, CSh.p53_2 Sg, CSh.p59_1 Sg, CSh.p59_2 Sg, CSh.p63_1 Sg, CSh.p63_2 Sg, CSh.p67_1 Sg, CSh.p67_2 Sg, CSh.p71_1 Sg, CSh.p71_2 Sg, CSh.p89_1 Sg, CSh.p89_2 Sg, eb', -Int.reduceToNat, -Int32.reduceToNatClampNeg, il0, il1, il2, il3, il4, il5, il6, il7, il8, il9, il10, il11, il12, il13, il14, il15, il16, il17, il18, il19, il20, il21, il22, il23, il24, il25, il26, il27, il28, il29, il30, il31, il32, il35, il36, il38, il40, il42, il43, il44, il45, il46, il47, il48, il49, il50, il51, il52, il57, il59, il60, il63, il64, il75, il80, il95, il96, il97, il98, il99, il100, il120, il122, il123, il127, il128, il135, il167, il175, il225, il249, il250, il255, il256, il360, il370, il384, il600, il700, il740, il900, il940, il1024, il1600, il4800, il64000, il125000, il262143, il1000000000, iI_toInt, iI_add, iI_sub, iI_mul, iI_neg, iI_lt, iI_le, iI_eq, iI_n, iI_in, iI_div, iI_mod, iI_shm, iI_and1, iI_and7, iI_and63, iI_shr3, iI_shr6, rd_I, ob, Option.some.injEq, exists_eq_left', exists_eq_left, true_and, and_true, fqI, fqJ, eq_self, true_or, or_true, bP_0, bP_0i, npP, bP_1i, bP_b, not_true_eq_false, not_false_eq_true, false_implies, true_implies, implies_true, Classical.not_not, and_self]
      exact ⟨fun _ => nx g ⟨Fg, T.cg fun p' q' u w => by omega, O⟩, fun u => by omega⟩
  · obtain ⟨Fg, T, O⟩ := J
    show wb_X0_matchTwo_16 (wl_X0_matchTwo_16 postV k) g 80 (iI a) (iI b) (iI (rchV s a b)) (iI (cntB s a)) postV
    have Sg := S.gr Fg.gr
    have ea' : rd g 81 a = cntB s a := by rw [Fg.row (by simp)]; exact ea
    unfold wb_X0_matchTwo_16
    simp (disch := omega) only [CSh.o0 Sg, CSh.o1 Sg, CSh.o2 Sg, CSh.o3 Sg, CSh.o26 Sg, CSh.o27 Sg, CSh.o29 Sg, CSh.o30 Sg, CSh.o31 Sg, CSh.o56 Sg, CSh.o57 Sg, CSh.o58 Sg, CSh.o62 Sg, CSh.o66 Sg, CSh.o70 Sg, CSh.o74 Sg, CSh.o75 Sg, CSh.o77 Sg, CSh.o79 Sg, CSh.o80 Sg, CSh.o81 Sg, CSh.o82 Sg, CSh.o83 Sg, CSh.o84 Sg, CSh.o85 Sg, CSh.o86 Sg, CSh.o87 Sg, CSh.o88 Sg, CSh.o53 Sg, CSh.o54 Sg, CSh.o55 Sg, CSh.o59 Sg, CSh.o60 Sg, CSh.o61 Sg, CSh.o63 Sg, CSh.o64 Sg, CSh.o65 Sg, CSh.o67 Sg, CSh.o68 Sg, CSh.o69 Sg, CSh.o71 Sg, CSh.o72 Sg, CSh.o73 Sg, CSh.o89 Sg, CSh.o90 Sg, CSh.o91 Sg, CSh.l1 Sg, CSh.l3 Sg, CSh.l27 Sg, CSh.l29 Sg, CSh.l30 Sg, CSh.l56 Sg, CSh.l57 Sg, CSh.l58 Sg, CSh.l75 Sg, CSh.l77 Sg, CSh.l79 Sg, CSh.l81 Sg, CSh.l82 Sg, CSh.l83 Sg, CSh.l84 Sg, CSh.l85 Sg, CSh.l86 Sg, CSh.l87 Sg, CSh.l88 Sg, CSh.l54 Sg, CSh.l55 Sg, CSh.l60 Sg, CSh.l61 Sg, CSh.l64 Sg, CSh.l65 Sg, CSh.l68 Sg, CSh.l69 Sg, CSh.l72 Sg, CSh.l73 Sg, CSh.l90 Sg, CSh.l91 Sg, CSh.p0_0 Sg, CSh.p0_3 Sg, CSh.p0_4 Sg, CSh.p0_5 Sg, CSh.p0_6 Sg, CSh.p0_7 Sg, CSh.p0_8 Sg, CSh.p0_9 Sg, CSh.p0_10 Sg, CSh.p0_14 Sg, CSh.p2_0 Sg, CSh.p26_0 Sg, CSh.p26_13 Sg, CSh.p26_14 Sg, CSh.p31_1 Sg, CSh.p31_3 Sg, CSh.p31_4 Sg, CSh.p62_0 Sg, CSh.p66_0 Sg, CSh.p70_0 Sg, CSh.p74_0 Sg, CSh.p74_1 Sg, CSh.p74_6 Sg, CSh.p74_7 Sg, CSh.p74_10 Sg, CSh.p80_1 Sg, CSh.p80_2 Sg, CSh.p80_3 Sg, CSh.p80_4 Sg, CSh.p80_5 Sg, CSh.p80_6 Sg, CSh.p80_7 Sg, CSh.p80_8 Sg, CSh.p53_1 Sg, CSh.p53_2 Sg, CSh.p59_1 Sg, CSh.p59_2 Sg, CSh.p63_1 Sg, CSh.p63_2 Sg, CSh.p67_1 Sg, CSh.p67_2 Sg, CSh.p71_1 Sg, CSh.p71_2 Sg, CSh.p89_1 Sg, CSh.p89_2 Sg, ea', -Int.reduceToNat, -Int32.reduceToNatClampNeg, il0, il1, il2, il3, il4, il5, il6, il7, il8, il9, il10, il11, il12, il13, il14, il15, il16, il17, il18, il19, il20, il21, il22, il23, il24, il25, il26, il27, il28, il29, il30, il31, il32, il35, il36, il38, il40, il42, il43, il44, il45, il46, il47, il48, il49, il50, il51, il52, il57, il59, il60, il63, il64, il75, il80, il95, il96, il97, il98, il99, il100, il120, il122, il123, il127, il128, il135, il167, il175, il225, il249, il250, il255, il256, il360, il370, il384, il600, il700, il740, il900, il940, il1024, il1600, il4800, il64000, il125000, il262143, il1000000000, iI_toInt, iI_add, iI_sub, iI_mul, iI_neg, iI_lt, iI_le, iI_eq, iI_n, iI_in, iI_div, iI_mod, iI_shm, iI_and1, iI_and7, iI_and63, iI_shr3, iI_shr6, rd_I, ob, Option.some.injEq, exists_eq_left', exists_eq_left, true_and, and_true, fqI, fqJ, eq_self, true_or, or_true, bP_0, bP_0i, npP, bP_1i, bP_b, not_true_eq_false, not_false_eq_true, false_implies, true_implies, implies_true, Classical.not_not, and_self]
    exact ⟨fun _ => K g Fg T O, fun u => by omega⟩
end MAT
