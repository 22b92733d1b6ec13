/-! a town out of bytes, in the class -/
/-- the spots and covers as put -/
def TS (h : AH) (tw : Nat) (s T z : Int → Int) (n : Int) : Prop := ∀ r, 0 ≤ r → r < n → rd h (tw + 1) r = enc T r ∧ Spot T z r ∧ aJ h (tw + 2) r.toNat = cvZ (wdT T z r) (hiT T z r) (enc T r % 64)
def accZ (C : Nat → Int64) (i : Int) : Int64 := foldI (fun r b => b ||| C r.toNat) i.toNat 0 0
theorem accZ_s (C : Nat → Int64) {i : Int} (h : 0 ≤ i) : accZ C (i + 1) = accZ C i ||| C i.toNat := by
  unfold accZ
  rw [show (i + 1).toNat = i.toNat + 1 by omega, foldI_snoc, show (0 : Int) + (i.toNat : Int) = i by omega]
theorem zb_acc (C : Nat → Int64) {k : Int} : ∀ d : Nat, (zb (foldI (fun r b => b ||| C r.toNat) d 0 0) k ↔ ∃ r : Int, 0 ≤ r ∧ r < d ∧ zb (C r.toNat) k) := by
  intro d
  induction d with
  | zero => exact ⟨fun q => absurd q (zb_0 k), fun ⟨r, a, b, _⟩ => by omega⟩
  | succ d ih =>
    rw [foldI_snoc, Int.zero_add, zb_or, ih]
    constructor
    · rintro (⟨r, r1, r2, r3⟩ | q)
      · exact ⟨r, r1, by omega, r3⟩
      · exact ⟨d, by omega, by omega, q⟩
    · rintro ⟨r, r1, r2, r3⟩
      by_cases e : r = d
      · subst e; exact Or.inr r3
      · exact Or.inl ⟨r, r1, by omega, r3⟩
section CBY
variable {h : AH} {la tw cv tp : Nat} {s t z T : Int → Int} {postV : AH → Prop} {post : AH → Int32 → Prop} {a b c d r x y n sp sq w hh u hr how one len : Int}
theorem over_sym : overT T z a b ↔ overT T z b a := by
  unfold overT ovX ovY
  omega
theorem town_acc (hG : GS s) (e : EZ z s) (hT : TS h tw s T z (s 2)) : (∀ i, 0 ≤ i → i < s 2 → ¬ ¬ (insT s T z i ∧ aJ h (tw + 2) i.toNat &&& accZ (aJ h (tw + 2)) i = 0)) ↔ townT s T z := by
  obtain ⟨⟨hS, n0, n1, n2, n3, n4, n5, hK, hW⟩, hD, hPo, hNe⟩ := hG
  have hZ := fun o o1 (o2 : o < s 2) => Z1.of e hD o1 o2 n2
  have bits : ∀ r, 0 ≤ r → r < s 2 → insT s T z r → ∀ x y, 0 ≤ x → x < 8 → 0 ≤ y → y < 8 → (zb (aJ h (tw + 2) r.toNat) (8 * y + x) ↔ onT T z r x y) := by
    intro r r1 r2 hi x y x1 x2 y1 y2
    obtain ⟨-, q2, q3⟩ := hT r r1 r2
    rw [q3]
    exact zb_spot q2 (in8_of n0 n1 hi) (hZ r r1 r2) x1 x2 y1 y2
  have cells : ∀ a b, 0 ≤ a → a < s 2 → 0 ≤ b → b < s 2 → insT s T z a → insT s T z b → (overT T z a b ↔ ∃ x y, 0 ≤ x ∧ x < 8 ∧ 0 ≤ y ∧ y < 8 ∧ onT T z a x y ∧ onT T z b x y) := by
    intro a b a1 a2 b1 b2 ia ib
    have wa := wd_Z (hT a a1 a2).2.1.P1 (hZ a a1 a2)
    have wb := wd_Z (hT b b1 b2).2.1.P1 (hZ b b1 b2)
    have oc := over_cells (in8_of n0 n1 ia) (in8_of n0 n1 ib)
    constructor
    · intro q
      exact (oc.mp ⟨⟨q.1.1, q.1.2⟩, ⟨q.2.1, q.2.2⟩, wa.1.1, wa.2.1, wb.1.1, wb.2.1⟩).1
    · intro q
      have := oc.mpr ⟨q, wa.1.1, wa.2.1, wb.1.1, wb.2.1⟩
      exact ⟨this.1, this.2.1⟩
  constructor
  · intro q
    have q' : ∀ i, 0 ≤ i → i < s 2 → insT s T z i ∧ aJ h (tw + 2) i.toNat &&& accZ (aJ h (tw + 2)) i = 0 := fun i i1 i2 => Classical.not_not.mp (q i i1 i2)
    have low : ∀ a b, 0 ≤ a → a < b → b < s 2 → ¬ overT T z b a := by
      intro a b a1 a2 b2 ho
      have ia := (q' a a1 (by omega)).1
      obtain ⟨ib, hb⟩ := q' b (by omega) b2
      obtain ⟨x, y, x1, x2, y1, y2, k1, k2⟩ := (cells b a (by omega) b2 a1 (by omega) ib ia).mp ho
      rw [z_and0'] at hb
      refine hb x y x1 x2 y1 y2 ⟨(bits b (by omega) b2 ib x y x1 x2 y1 y2).mpr k1, ?_⟩
      unfold accZ
      rw [zb_acc]
      exact ⟨a, a1, by omega, (bits a a1 (by omega) ia x y x1 x2 y1 y2).mpr k2⟩
    intro r r1 r2 k
    rcases k with k | ⟨o, o1, o2, o3, o4⟩
    · exact k (q' r r1 r2).1
    · by_cases c : o < r
      · exact low o r o1 c r2 o4
      · exact low r o r1 (by omega) o2 (over_sym.mp o4)
  · intro q i i1 i2 k
    have hall : ∀ r, 0 ≤ r → r < s 2 → insT s T z r := fun r r1 r2 => Classical.not_not.mp fun c => q r r1 r2 (Or.inl c)
    apply k
    refine ⟨hall i i1 i2, ?_⟩
    rw [z_and0']
    rintro x y x1 x2 y1 y2 ⟨k1, k2⟩
    unfold accZ at k2
    rw [zb_acc] at k2
    obtain ⟨o, o1, o2, o3⟩ := k2
    have o2' : o < s 2 := by omega
    refine q i i1 i2 (Or.inr ⟨o, o1, o2', by omega, ?_⟩)
    exact (cells i o i1 i2 o1 o2' (hall i i1 i2) (hall o o1 o2')).mpr ⟨x, y, x1, x2, y1, y2, (bits i i1 i2 (hall i i1 i2) x y x1 x2 y1 y2).mp k1, (bits o o1 o2' (hall o o1 o2') x y x1 x2 y1 y2).mp o3⟩
theorem c_isSound (H : LB h la) (L : LR h la s) (B : TB h tw) (hp : aP h tw 0 = some la) (hG : GS s) (e : EZ z s) (hT : TS h tw s T z (s 2)) : wp_X8_isSound h tw post ↔ post h (bP (townT s T z)) := by
  have hG' := hG
  obtain ⟨⟨hS, n0, n1, n2, n3, n4, n5, hK, hW⟩, hD, hPo, hNe⟩ := hG
  have s2 := hS 2 (by omega) (by omega)
  have hZ := fun o o1 (o2 : o < s 2) => Z1.of e hD o1 o2 n2
  unfold wp_X8_isSound
  have key := lp_all (W := fun n i => wl_X8_isSound_4 post n h tw (accZ (aJ h (tw + 2)) i) (iI i)) (h := h) (post := post) (P := fun i => ¬ (insT s T z i ∧ aJ h (tw + 2) i.toNat &&& accZ (aJ h (tw + 2)) i = 0)) (lo := 0) (hi := s 2) (by omega) (fun i q => q) (fun n i i1 i2 => ?_) (fun n => ?_)
  · rw [← bP_c (town_acc hG' e hT)]
    exact key
  · show wb_X8_isSound_4 (wl_X8_isSound_4 post n) h tw _ (iI i) post ↔ _
    obtain ⟨q1, q2, q3⟩ := hT i i1 i2
    have en := enc_nums q2
    have we := wsp_enc e i1 (show i < 8 by omega) q2
    have ee : (enc T i % 8 + wsp s i (enc T i) ≤ s 0 ∧ enc T i / 8 % 8 + hsp s i (enc T i) ≤ s 1) ↔ insT s T z i := by
      rw [en.2.1, en.2.2.1, we.1, we.2]
      unfold insT
      have := q2.1
      have := q2.2.1
      omega
    unfold wb_X8_isSound_4
    simp (disch := omega) only [LB.o0 H, LB.p2 H, LB.o1 H, LB.l1 H, LB.p3 H, LB.o2 H, LB.l2 H, LB.p4 H, LB.o3 H, LB.l3 H, LB.p6 H, LB.o4 H, LB.l4 H, LB.p7 H, LB.o5 H, LB.l5 H, LB.p8 H, LB.o6 H, LB.l6 H, LB.p9 H, LB.o7 H, LB.l7 H, LB.p10 H, LB.o8 H, LB.l8 H, LB.p12 H, LB.o9 H, LB.l9 H, LB.p14 H, LB.o10 H, LB.p15 H, LB.o16 H, LB.q10_1 H, LB.o11 H, LB.l11 H, LB.q10_2 H, LB.o12 H, LB.l12 H, LB.q10_3 H, LB.o13 H, LB.l13 H, LB.q10_4 H, LB.o14 H, LB.l14 H, LB.q10_5 H, LB.o15 H, LB.l15 H, LB.q16_1 H, LB.o17 H, LB.l17 H, LB.q16_2 H, LB.o18 H, LB.l18 H, LB.q16_3 H, LB.o19 H, LB.l19 H, LB.q16_4 H, LB.o20 H, LB.l20 H, TB.o0 B, TB.p1 B, TB.o1 B, TB.l1 B, TB.p2 B, TB.o2 B, TB.l2 B, hp, fd0, fd1, fd2, fd3, fd4, fd5, fd6, fd7, fd8, fd9, fd10, fd11, fd12, fd13, fd14, fd15, fd16, fd17, fd18, fd19, fd20, fd21, fd22, fd23, fd24, fd25, fd26, fd27, fd28, fd29, fd30, fd31, fd32, fd33, fd34, fd35, fd36, fd37, fd38, fd39, fd40, fd41, fd42, fd43, fd44, fd45, fd46, fd47, fd48, fd49, fd50, fd51, fd52, LR.c0 L, LR.c1 L, LR.c5 L, LR.c11 L, LR.q0 L, LR.w0 L, LR.td L, LR.wi L, LR.hi L, LR.dr L, LR.po L, LR.ro L, LR.rp L, LR.rq L, LR.rh L, LR.mo L, LR.wk L, LR.wh L, LR.wt L, LR.ww L, -Int.reduceToNat, -Int32.reduceToNatClampNeg, il0, il1, il2, il3, il4, il5, il6, il7, il8, il9, il10, il11, il12, il13, il14, il15, il16, il17, il18, il19, il20, il21, il22, il23, il24, il25, il26, il27, il28, il29, il30, il31, il32, il35, il36, il38, il40, il42, il43, il44, il45, il46, il47, il48, il49, il50, il51, il52, il57, il59, il60, il63, il64, il75, il80, il95, il96, il97, il98, il99, il100, il120, il122, il123, il127, il128, il135, il167, il175, il225, il249, il250, il255, il256, il360, il370, il384, il600, il700, il740, il900, il940, il1024, il1600, il4800, il64000, il125000, il262143, il1000000000, iI_toInt, iI_add, iI_sub, iI_mul, iI_neg, iI_lt, iI_le, iI_eq, iI_n, iI_in, iI_div, iI_mod, iI_shm, iI_and1, iI_and7, iI_and63, iI_shr3, iI_shr6, rd_I, lgc, z_bit, ob, Option.some.injEq, exists_eq_left', exists_eq_left, true_and, and_true, fqI, fqJ, eq_self, true_or, or_true, bP_0, bP_0i, npP, bP_1i, bP_b, not_true_eq_false, not_false_eq_true, false_implies, true_implies, implies_true, Classical.not_not, and_self, cP, cP', ite_n, ite_T, ite_F, ite_t, ite_f, q1, c_holds H L hS hD i1 i2 n2 en.1.1 en.1.2, ee, ← accZ_s]
    by_cases c1 : insT s T z i
    · rw [ite_t c1]
      by_cases c2 : aJ h (tw + 2) i.toNat &&& accZ (aJ h (tw + 2)) i = 0
      · rw [ite_t c2, ite_t ⟨c1, c2⟩, accZ_s _ i1]
      · rw [ite_f c2, ite_f (fun q => c2 q.2)]
    · rw [ite_f c1, ite_f (fun q => c1 q.1)]
  · show wb_X8_isSound_4 (wl_X8_isSound_4 post n) h tw _ (iI _) post ↔ _
    unfold wb_X8_isSound_4
    simp (disch := omega) only [LB.o0 H, LB.p2 H, LB.o1 H, LB.l1 H, LB.p3 H, LB.o2 H, LB.l2 H, LB.p4 H, LB.o3 H, LB.l3 H, LB.p6 H, LB.o4 H, LB.l4 H, LB.p7 H, LB.o5 H, LB.l5 H, LB.p8 H, LB.o6 H, LB.l6 H, LB.p9 H, LB.o7 H, LB.l7 H, LB.p10 H, LB.o8 H, LB.l8 H, LB.p12 H, LB.o9 H, LB.l9 H, LB.p14 H, LB.o10 H, LB.p15 H, LB.o16 H, LB.q10_1 H, LB.o11 H, LB.l11 H, LB.q10_2 H, LB.o12 H, LB.l12 H, LB.q10_3 H, LB.o13 H, LB.l13 H, LB.q10_4 H, LB.o14 H, LB.l14 H, LB.q10_5 H, LB.o15 H, LB.l15 H, LB.q16_1 H, LB.o17 H, LB.l17 H, LB.q16_2 H, LB.o18 H, LB.l18 H, LB.q16_3 H, LB.o19 H, LB.l19 H, LB.q16_4 H, LB.o20 H, LB.l20 H, TB.o0 B, TB.p1 B, TB.o1 B, TB.l1 B, TB.p2 B, TB.o2 B, TB.l2 B, hp, fd0, fd1, fd2, fd3, fd4, fd5, fd6, fd7, fd8, fd9, fd10, fd11, fd12, fd13, fd14, fd15, fd16, fd17, fd18, fd19, fd20, fd21, fd22, fd23, fd24, fd25, fd26, fd27, fd28, fd29, fd30, fd31, fd32, fd33, fd34, fd35, fd36, fd37, fd38, fd39, fd40, fd41, fd42, fd43, fd44, fd45, fd46, fd47, fd48, fd49, fd50, fd51, fd52, LR.c0 L, LR.c1 L, LR.c5 L, LR.c11 L, LR.q0 L, LR.w0 L, LR.td L, LR.wi L, LR.hi L, LR.dr L, LR.po L, LR.ro L, LR.rp L, LR.rq L, LR.rh L, LR.mo L, LR.wk L, LR.wh L, LR.wt L, LR.ww L, -Int.reduceToNat, -Int32.reduceToNatClampNeg, il0, il1, il2, il3, il4, il5, il6, il7, il8, il9, il10, il11, il12, il13, il14, il15, il16, il17, il18, il19, il20, il21, il22, il23, il24, il25, il26, il27, il28, il29, il30, il31, il32, il35, il36, il38, il40, il42, il43, il44, il45, il46, il47, il48, il49, il50, il51, il52, il57, il59, il60, il63, il64, il75, il80, il95, il96, il97, il98, il99, il100, il120, il122, il123, il127, il128, il135, il167, il175, il225, il249, il250, il255, il256, il360, il370, il384, il600, il700, il740, il900, il940, il1024, il1600, il4800, il64000, il125000, il262143, il1000000000, iI_toInt, iI_add, iI_sub, iI_mul, iI_neg, iI_lt, iI_le, iI_eq, iI_n, iI_in, iI_div, iI_mod, iI_shm, iI_and1, iI_and7, iI_and63, iI_shr3, iI_shr6, rd_I, lgc, z_bit, ob, Option.some.injEq, exists_eq_left', exists_eq_left, true_and, and_true, fqI, fqJ, eq_self, true_or, or_true, bP_0, bP_0i, npP, bP_1i, bP_b, not_true_eq_false, not_false_eq_true, false_implies, true_implies, implies_true, Classical.not_not, and_self, cP, cP', ite_n, ite_T, ite_F, ite_t, ite_f]
end CBY
