/-! the class's town -/
def sb (x : Int32) (k : Int) : Prop := x.toBitVec.getLsbD k.toNat = true
theorem sb_and1 (x : Int32) : (x &&& iI 1 = iI 0 ↔ ¬ sb x 0) ∧ (x &&& iI 1 = iI 1 ↔ sb x 0) := by
  have e : ∀ c : Int32, (x &&& iI 1 = c ↔ (x &&& iI 1).toBitVec = c.toBitVec) := fun c => Int32.toBitVec_inj.symm
  have b1 : (iI 1).toBitVec = 1#32 := by decide
  have b0 : (iI 0).toBitVec = 0#32 := by decide
  have k : x.toBitVec &&& 1#32 = if x.toBitVec.getLsbD 0 then 1#32 else 0#32 := by
    apply BitVec.eq_of_getLsbD_eq
    intro i hi
    rw [BitVec.getLsbD_and]
    by_cases c : i = 0
    · subst c
      cases x.toBitVec.getLsbD 0 <;> simp
    · have : (1#32).getLsbD i = false := by
        rw [BitVec.getLsbD_one]
        simp [c]
      rw [this]
      split
      · rw [this]; simp
      · simp
  rw [e, e, Int32.toBitVec_and, b1, b0, k]
  show (_ ↔ ¬ (x.toBitVec.getLsbD 0 = true)) ∧ (_ ↔ x.toBitVec.getLsbD 0 = true)
  cases x.toBitVec.getLsbD 0 <;> decide
theorem sb_shr (x : Int32) {k : Int} (h1 : 0 ≤ k) (h2 : k < 32) : sb (x >>> iI k) 0 ↔ sb x k := by
  unfold sb
  show (BitVec.sshiftRight' x.toBitVec ((iI k).toBitVec.smod 32)).getLsbD 0 = true ↔ _
  rw [BitVec.sshiftRight_eq', iI_bv h1 (by omega), sm32 _ (by omega), BitVec.getLsbD_sshiftRight]
  simp [show k.toNat < 32 by omega]
theorem sb_0 (x : Int32) {k : Int} (h1 : 0 ≤ k) (h2 : k < 32) : (x >>> iI k &&& iI 1 = iI 0) ↔ ¬ sb x k := by rw [(sb_and1 _).1, sb_shr x h1 h2]
theorem sb_1 (x : Int32) {k : Int} (h1 : 0 ≤ k) (h2 : k < 32) : (x >>> iI k &&& iI 1 = iI 1) ↔ sb x k := by rw [(sb_and1 _).2, sb_shr x h1 h2]
theorem sb_or (a b : Int32) (k : Int) : sb (a ||| b) k ↔ sb a k ∨ sb b k := by
  unfold sb
  rw [Int32.toBitVec_or, BitVec.getLsbD_or]
  simp
theorem sb_and (a b : Int32) (k : Int) : sb (a &&& b) k ↔ sb a k ∧ sb b k := by
  unfold sb
  rw [Int32.toBitVec_and, BitVec.getLsbD_and]
  simp
theorem sb_z (k : Int) : ¬ sb (iI 0) k := by
  unfold sb
  rw [show (iI 0).toBitVec = 0#32 by decide]
  simp
theorem sb_one {i k : Int} (h1 : 0 ≤ i) (h2 : i < 31) (h3 : 0 ≤ k) (h4 : k < 32) : sb (iI 1 <<< iI i) k ↔ k = i := by
  have : ∀ i : Nat, i < 31 → ∀ k : Nat, k < 32 → (((1 : Int32) <<< Int32.ofNat i).toBitVec.getLsbD k = true ↔ k = i) := by decide +kernel
  unfold sb
  rw [iI_nat h1]
  show ((1 : Int32) <<< _).toBitVec.getLsbD k.toNat = true ↔ _
  rw [this _ (by omega) _ (by omega)]
  omega
theorem sb_ext {a b : Int32} (h : ∀ k, 0 ≤ k → k < 32 → (sb a k ↔ sb b k)) : a = b := by
  apply Int32.toBitVec_inj.mp
  apply BitVec.eq_of_getLsbD_eq
  intro i hi
  have := h i (by omega) (by omega)
  unfold sb at this
  rw [Int.toNat_natCast] at this
  exact Bool.eq_iff_iff.mpr this
theorem sb_bits {P : Int → Prop} {k : Int} (h3 : 0 ≤ k) (h4 : k < 32) : ∀ d : Nat, d ≤ 31 → (sb (foldI (bitsF P) d 0 (iI 0)) k ↔ k < d ∧ P k) := by
  intro d
  induction d with
  | zero =>
    intro _
    exact ⟨fun q => absurd q (sb_z k), fun q => by have := q.1; omega⟩
  | succ d ih =>
    intro hd
    rw [foldI_snoc]
    unfold bitsF
    have ih' := ih (by omega)
    unfold bitsF at ih'
    rw [Int.zero_add]
    by_cases c : P d
    · rw [ite_t c, sb_or, ih', sb_one (by omega) (by omega) h3 h4]
      constructor
      · rintro (q | q)
        · exact ⟨by omega, q.2⟩
        · subst q; exact ⟨by omega, c⟩
      · rintro ⟨q1, q2⟩
        by_cases e : k = d
        · exact Or.inr e
        · exact Or.inl ⟨by omega, q2⟩
    · rw [ite_f c, ih']
      constructor
      · rintro ⟨q1, q2⟩; exact ⟨by omega, q2⟩
      · rintro ⟨q1, q2⟩
        refine ⟨?_, q2⟩
        by_cases e : k = d
        · subst e; exact absurd q2 c
        · omega
/-- the town's cells hold what t tells -/
def TR (h : AH) (tw la : Nat) (s t z : Int → Int) : Prop := TB h tw ∧ aP h tw 0 = some la ∧ (∀ r, 0 ≤ r → r < s 2 → rd h (tw + 1) r = enc t r) ∧ ∀ r, 0 ≤ r → r < s 2 → ∀ x y, 0 ≤ x → x < 8 → 0 ≤ y → y < 8 → (zb (aJ h (tw + 2) r.toNat) (8 * y + x) ↔ onT t z r x y)
/-- a town that may be -/
def VT (s t z : Int → Int) : Prop := ∀ r, 0 ≤ r → r < s 2 → Spot t z r ∧ insT s t z r ∧ ∀ o, 0 ≤ o → o < s 2 → o ≠ r → ¬ overT t z r o
def RNe (s : Int → Int) : Prop := ∀ k, 0 ≤ k → k < s 4 → s (135 + 4 * k) ≠ s (135 + 4 * k + 1)
/-- all that stays true of a state -/
def GS (s : Int → Int) : Prop := SOk s ∧ SD s ∧ PoOk s ∧ RNe s
section CTOWN
variable {h : AH} {la tw : Nat} {s t z t' : Int → Int} {post : AH → Int32 → Prop} {postJ : AH → Int64 → Prop} {a b c d r x y n sp sq w hh u hr how one : Int} {zz : Int64}
theorem over_cells (ha : in8 t z a) (hb : in8 t' z b) : (t (3 * a) < t' (3 * b) + wdT t' z b ∧ t' (3 * b) < t (3 * a) + wdT t z a) ∧ (t (3 * a + 1) < t' (3 * b + 1) + hiT t' z b ∧ t' (3 * b + 1) < t (3 * a + 1) + hiT t z a) ∧ 1 ≤ wdT t z a ∧ 1 ≤ hiT t z a ∧ 1 ≤ wdT t' z b ∧ 1 ≤ hiT t' z b ↔
    (∃ x y, 0 ≤ x ∧ x < 8 ∧ 0 ≤ y ∧ y < 8 ∧ onT t z a x y ∧ onT t' z b x y) ∧ 1 ≤ wdT t z a ∧ 1 ≤ hiT t z a ∧ 1 ≤ wdT t' z b ∧ 1 ≤ hiT t' z b := by
  obtain ⟨i1, i2, i3, i4⟩ := ha
  obtain ⟨j1, j2, j3, j4⟩ := hb
  unfold onT
  constructor
  · rintro ⟨⟨a1, a2⟩, ⟨b1, b2⟩, k⟩
    refine ⟨⟨mxz (t (3 * a)) (t' (3 * b)), mxz (t (3 * a + 1)) (t' (3 * b + 1)), ?_⟩, k⟩
    unfold mxz
    split <;> split <;> omega
  · rintro ⟨⟨x, y, -, -, -, -, ⟨k1, k2, k3, k4⟩, ⟨l1, l2, l3, l4⟩⟩, k⟩
    omega
theorem fits_fl (hD : SD s) (hS : SBd s) (n0 : s 0 ≤ 8) (n1 : s 1 ≤ 8) (n2 : s 2 ≤ 8) (e : EZ z s) (h1 : 0 ≤ r) (h2 : r < s 2) (h3 : 0 ≤ hr) (h4 : hr < 24) (hP : P1 t r) (hI : insT s t z r) (hz : ∀ x y, 0 ≤ x → x < 8 → 0 ≤ y → y < 8 → (zb zz (8 * y + x) ↔ onT t z r x y)) : fits s zz r hr ↔ flT s t z r hr := by
  have w := wd_Z hP (Z1.of e hD h1 h2 n2)
  have d2 := hS (99 + 3 * r + 2) (by omega) (by omega)
  obtain ⟨i1, i2, i3, i4⟩ := hI
  unfold fits flT
  constructor
  · intro q y y1 y2 q2
    obtain ⟨x, x1, x2, x3⟩ := q2
    apply x3
    have dd : 0 ≤ dpT s x y hr ∧ s (75 + hr) - s (11 + 8 * y + x) ≤ dpT s x y hr := by unfold dpT; split <;> omega
    rcases q with q | ⟨-, q⟩
    · omega
    · have := q x y (by omega) (by omega) (by omega) (by omega) ((hz x y (by omega) (by omega) (by omega) (by omega)).mpr ⟨x1, x2, y1, y2⟩)
      omega
  · intro q
    by_cases c : s (99 + 3 * r + 2) = 0
    · exact Or.inl c
    have key : ∀ x y, onT t z r x y → s (11 + 8 * y + x) ≤ s (75 + hr) - s (99 + 3 * r + 2) := by
      rintro x y ⟨k1, k2, k3, k4⟩
      have := q y k3 k4
      apply Classical.byContradiction
      intro k5
      apply this
      refine ⟨x, k1, k2, ?_⟩
      unfold dpT
      split <;> omega
    refine Or.inr ⟨?_, fun x y x1 x2 y1 y2 k => ?_⟩
    · have := key (t (3 * r)) (t (3 * r + 1)) ⟨by omega, by omega, by omega, by omega⟩
      have g := hS (11 + 8 * t (3 * r + 1) + t (3 * r)) (by omega) (by omega)
      omega
    · have k' := (hz x y x1 x2 y1 y2).mp k
      have := key x y k'
      obtain ⟨k1, k2, k3, k4⟩ := k'
      omega
noncomputable def cbZ (f : Nat → Int64) (one n : Int) : Int64 := foldI (fun r b => iteP (r = one) b (b ||| f r.toNat)) n.toNat 0 0
theorem zb_cb (f : Nat → Int64) (one : Int) {k : Int} : ∀ d : Nat, (zb (foldI (fun r b => iteP (r = one) b (b ||| f r.toNat)) d 0 0) k ↔ ∃ r : Int, 0 ≤ r ∧ r < d ∧ r ≠ one ∧ zb (f r.toNat) k) := by
  intro d
  induction d with
  | zero => exact ⟨fun q => absurd q (zb_0 k), fun ⟨r, a, b, _⟩ => by omega⟩
  | succ d ih =>
    rw [foldI_snoc, Int.zero_add]
    by_cases c : (d : Int) = one
    · rw [ite_t c, ih]
      constructor
      · rintro ⟨r, r1, r2, r3, r4⟩; exact ⟨r, r1, by omega, r3, r4⟩
      · rintro ⟨r, r1, r2, r3, r4⟩; exact ⟨r, r1, by omega, r3, r4⟩
    · rw [ite_f c, zb_or, ih]
      constructor
      · rintro (⟨r, r1, r2, r3, r4⟩ | q)
        · exact ⟨r, r1, by omega, r3, r4⟩
        · exact ⟨d, by omega, by omega, c, q⟩
      · rintro ⟨r, r1, r2, r3, r4⟩
        by_cases e : r = d
        · subst e; exact Or.inr r4
        · exact Or.inl ⟨r, r1, by omega, r3, r4⟩
theorem c_coveredBut (H : LB h la) (L : LR h la s) (B : TB h tw) (hp : aP h tw 0 = some la) (n2 : 0 ≤ s 2 ∧ s 2 ≤ 8) (h1 : -100 ≤ one) (h2 : one ≤ 100) : wp_X8_coveredBut h tw (iI one) postJ ↔ postJ h (cbZ (aJ h (tw + 2)) one (s 2)) := by
  unfold wp_X8_coveredBut
  have key := lp_fold (W := fun n (b : Int64) i => wl_X8_coveredBut_5 postJ n h tw (iI one) b (iI i)) (E := fun b => postJ h b) (f := fun r b => iteP (r = one) b (b ||| aJ h (tw + 2) r.toNat)) (lo := 0) (hi := s 2) (fun _ _ => True) (by omega) (fun b i q => q) (fun n b i i1 i2 _ => ?_) (fun _ _ _ _ _ => trivial) (fun n b _ => ?_) 0 trivial
  · rw [Int.sub_zero] at key
    exact key
  · show wb_X8_coveredBut_5 (wl_X8_coveredBut_5 postJ n) h tw (iI one) b (iI i) postJ ↔ _
    unfold wb_X8_coveredBut_5 wb_X8_coveredBut_33
    simp (disch := omega) only [LB.o0 H, LB.p2 H, LB.o1 H, LB.l1 H, LB.p3 H, LB.o2 H, LB.l2 H, LB.p4 H, LB.o3 H, LB.l3 H, LB.p6 H, LB.o4 H, LB.l4 H, LB.p7 H, LB.o5 H, LB.l5 H, LB.p8 H, LB.o6 H, LB.l6 H, LB.p9 H, LB.o7 H, LB.l7 H, LB.p10 H, LB.o8 H, LB.l8 H, LB.p12 H, LB.o9 H, LB.l9 H, LB.p14 H, LB.o10 H, LB.p15 H, LB.o16 H, LB.q10_1 H, LB.o11 H, LB.l11 H, LB.q10_2 H, LB.o12 H, LB.l12 H, LB.q10_3 H, LB.o13 H, LB.l13 H, LB.q10_4 H, LB.o14 H, LB.l14 H, LB.q10_5 H, LB.o15 H, LB.l15 H, LB.q16_1 H, LB.o17 H, LB.l17 H, LB.q16_2 H, LB.o18 H, LB.l18 H, LB.q16_3 H, LB.o19 H, LB.l19 H, LB.q16_4 H, LB.o20 H, LB.l20 H, TB.o0 B, TB.p1 B, TB.o1 B, TB.l1 B, TB.p2 B, TB.o2 B, TB.l2 B, hp, fd0, fd1, fd2, fd3, fd4, fd5, fd6, fd7, fd8, fd9, fd10, fd11, fd12, fd13, fd14, fd15, fd16, fd17, fd18, fd19, fd20, fd21, fd22, fd23, fd24, fd25, fd26, fd27, fd28, fd29, fd30, fd31, fd32, fd33, fd34, fd35, fd36, fd37, fd38, fd39, fd40, fd41, fd42, fd43, fd44, fd45, fd46, fd47, fd48, fd49, fd50, fd51, fd52, LR.c0 L, LR.c1 L, LR.c5 L, LR.c11 L, LR.q0 L, LR.w0 L, LR.td L, LR.wi L, LR.hi L, LR.dr L, LR.po L, LR.ro L, LR.rp L, LR.rq L, LR.rh L, LR.mo L, LR.wk L, LR.wh L, LR.wt L, LR.ww L, -Int.reduceToNat, -Int32.reduceToNatClampNeg, il0, il1, il2, il3, il4, il5, il6, il7, il8, il9, il10, il11, il12, il13, il14, il15, il16, il17, il18, il19, il20, il21, il22, il23, il24, il25, il26, il27, il28, il29, il30, il31, il32, il35, il36, il38, il40, il42, il43, il44, il45, il46, il47, il48, il49, il50, il51, il52, il57, il59, il60, il63, il64, il75, il80, il95, il96, il97, il98, il99, il100, il120, il122, il123, il127, il128, il135, il167, il175, il225, il249, il250, il255, il256, il360, il370, il384, il600, il700, il740, il900, il940, il1024, il1600, il4800, il64000, il125000, il262143, il1000000000, iI_toInt, iI_add, iI_sub, iI_mul, iI_neg, iI_lt, iI_le, iI_eq, iI_n, iI_in, iI_div, iI_mod, iI_shm, iI_and1, iI_and7, iI_and63, iI_shr3, iI_shr6, rd_I, lgc, z_bit, ob, Option.some.injEq, exists_eq_left', exists_eq_left, true_and, and_true, fqI, fqJ, eq_self, true_or, or_true, bP_0, bP_0i, npP, bP_1i, bP_b, not_true_eq_false, not_false_eq_true, false_implies, true_implies, implies_true, Classical.not_not, and_self, cP, cP', ite_n, ite_T, ite_F, ite_t, ite_f]
    by_cases c : i = one
    · rw [ite_t c, ite_t c]
    · rw [ite_f c, ite_f c]
  · show wb_X8_coveredBut_5 (wl_X8_coveredBut_5 postJ n) h tw (iI one) b (iI _) postJ ↔ _
    unfold wb_X8_coveredBut_5
    simp (disch := omega) only [LB.o0 H, LB.p2 H, LB.o1 H, LB.l1 H, LB.p3 H, LB.o2 H, LB.l2 H, LB.p4 H, LB.o3 H, LB.l3 H, LB.p6 H, LB.o4 H, LB.l4 H, LB.p7 H, LB.o5 H, LB.l5 H, LB.p8 H, LB.o6 H, LB.l6 H, LB.p9 H, LB.o7 H, LB.l7 H, LB.p10 H, LB.o8 H, LB.l8 H, LB.p12 H, LB.o9 H, LB.l9 H, LB.p14 H, LB.o10 H, LB.p15 H, LB.o16 H, LB.q10_1 H, LB.o11 H, LB.l11 H, LB.q10_2 H, LB.o12 H, LB.l12 H, LB.q10_3 H, LB.o13 H, LB.l13 H, LB.q10_4 H, LB.o14 H, LB.l14 H, LB.q10_5 H, LB.o15 H, LB.l15 H, LB.q16_1 H, LB.o17 H, LB.l17 H, LB.q16_2 H, LB.o18 H, LB.l18 H, LB.q16_3 H, LB.o19 H, LB.l19 H, LB.q16_4 H, LB.o20 H, LB.l20 H, TB.o0 B, TB.p1 B, TB.o1 B, TB.l1 B, TB.p2 B, TB.o2 B, TB.l2 B, hp, fd0, fd1, fd2, fd3, fd4, fd5, fd6, fd7, fd8, fd9, fd10, fd11, fd12, fd13, fd14, fd15, fd16, fd17, fd18, fd19, fd20, fd21, fd22, fd23, fd24, fd25, fd26, fd27, fd28, fd29, fd30, fd31, fd32, fd33, fd34, fd35, fd36, fd37, fd38, fd39, fd40, fd41, fd42, fd43, fd44, fd45, fd46, fd47, fd48, fd49, fd50, fd51, fd52, LR.c0 L, LR.c1 L, LR.c5 L, LR.c11 L, LR.q0 L, LR.w0 L, LR.td L, LR.wi L, LR.hi L, LR.dr L, LR.po L, LR.ro L, LR.rp L, LR.rq L, LR.rh L, LR.mo L, LR.wk L, LR.wh L, LR.wt L, LR.ww L, -Int.reduceToNat, -Int32.reduceToNatClampNeg, il0, il1, il2, il3, il4, il5, il6, il7, il8, il9, il10, il11, il12, il13, il14, il15, il16, il17, il18, il19, il20, il21, il22, il23, il24, il25, il26, il27, il28, il29, il30, il31, il32, il35, il36, il38, il40, il42, il43, il44, il45, il46, il47, il48, il49, il50, il51, il52, il57, il59, il60, il63, il64, il75, il80, il95, il96, il97, il98, il99, il100, il120, il122, il123, il127, il128, il135, il167, il175, il225, il249, il250, il255, il256, il360, il370, il384, il600, il700, il740, il900, il940, il1024, il1600, il4800, il64000, il125000, il262143, il1000000000, iI_toInt, iI_add, iI_sub, iI_mul, iI_neg, iI_lt, iI_le, iI_eq, iI_n, iI_in, iI_div, iI_mod, iI_shm, iI_and1, iI_and7, iI_and63, iI_shr3, iI_shr6, rd_I, lgc, z_bit, ob, Option.some.injEq, exists_eq_left', exists_eq_left, true_and, and_true, fqI, fqJ, eq_self, true_or, or_true, bP_0, bP_0i, npP, bP_1i, bP_b, not_true_eq_false, not_false_eq_true, false_implies, true_implies, implies_true, Classical.not_not, and_self, cP, cP', ite_n, ite_T, ite_F, ite_t, ite_f]
end CTOWN
