/-! numbers in a state -/
def nIn (st r : Int) : Int := if r = 0 then st / 4096 % 64 else if r = 1 then st / 64 % 64 else st % 64
def wN (st r p : Int) : Int := if r = 0 then st % 4096 + 4096 * p else if r = 1 then st / 4096 * 4096 + 64 * p + st % 64 else st / 64 * 64 + p
section NUM
variable {h h1 h2 h' h0 g0 g : AH} {qa0 qa ac la : Nat} {postV : AH → Prop} {post : AH → Int32 → Prop} {postJ : AH → Int64 → Prop} {a b c d f i j k t' v w x y pl r hr how goal st u sp sq q p last : Int} {s t z X F B : Int → Int} {S : BS} {zz : Int64} {D : Int → Int → Prop}
theorem sb_not (x : Int32) {k : Int} (h1 : 0 ≤ k) (h2 : k < 32) : sb (x ^^^ (-1 : Int32)) k ↔ ¬ sb x k := by
  unfold sb
  rw [Int32.toBitVec_xor, BitVec.getLsbD_xor]
  have e : (-1 : Int32).toBitVec = BitVec.allOnes 32 := by decide +kernel
  rw [e, BitVec.getLsbD_allOnes]
  simp [show k.toNat < 32 by omega]
theorem sb_shl (x : Int32) {k j : Int} (h1 : 0 ≤ k) (h2 : k < 32) (h3 : 0 ≤ j) (h4 : j < 32) : sb (x <<< iI k) j ↔ k ≤ j ∧ sb x (j - k) := by
  unfold sb
  show ((x.toBitVec <<< ((iI k).toBitVec.smod 32)).getLsbD j.toNat = true) ↔ _
  rw [BitVec.shiftLeft_eq', iI_bv h1 (by omega), sm32 _ (by omega), BitVec.getLsbD_shiftLeft]
  rw [show (j - k).toNat = j.toNat - k.toNat by omega]
  simp
  intro _
  omega
theorem sb_tb (n : Nat) (hn : n < 2147483648) {k : Int} (h1 : 0 ≤ k) (h2 : k < 32) : sb (iI (n : Int)) k ↔ n.testBit k.toNat = true := by
  unfold sb
  rw [iI_bv (by omega) (by omega), BitVec.getLsbD_ofNat]
  simp [show k.toNat < 32 by omega]
theorem tb3 {m A N B : Nat} (hB : B < 2 ^ m) (hN : N < 2 ^ 6) (k : Nat) : (2 ^ m * (2 ^ 6 * A + N) + B).testBit k = if k < m then B.testBit k else if k - m < 6 then N.testBit (k - m) else A.testBit (k - m - 6) := by
  rw [Nat.testBit_two_pow_mul_add _ hB, Nat.testBit_two_pow_mul_add _ hN]
theorem wn_bits {m A N B P : Nat} (hm : m ≤ 12) (hB : B < 2 ^ m) (hN : N < 2 ^ 6) (hP : P < 2 ^ 6) (v1 : 2 ^ m * (2 ^ 6 * A + N) + B < 2147483648) (v2 : 2 ^ m * (2 ^ 6 * A + P) + B < 2147483648) : (iI ((2 ^ m * (2 ^ 6 * A + N) + B : Nat) : Int) &&& ((iI 63 <<< iI (m : Int)) ^^^ (-1 : Int32))) ||| (iI (P : Int) <<< iI (m : Int)) = iI ((2 ^ m * (2 ^ 6 * A + P) + B : Nat) : Int) := by
  refine sb_ext fun k k0 k1 => ?_
  rw [sb_or, sb_and, sb_not _ k0 k1, sb_shl _ (by omega) (by omega) k0 k1, sb_shl _ (by omega) (by omega) k0 k1, sb_tb _ v1 k0 k1, sb_tb _ v2 k0 k1, tb3 hB hN, tb3 hB hP]
  by_cases c : (m : Int) ≤ k
  · rw [show (63 : Int) = ((2 ^ 6 - 1 : Nat) : Int) from rfl, sb_tb _ (by decide) (by omega) (by omega), sb_tb _ (by omega) (by omega) (by omega), Nat.testBit_two_pow_sub_one, if_neg (show ¬ k.toNat < m by omega), if_neg (show ¬ k.toNat < m by omega), show (k - (m : Int)).toNat = k.toNat - m by omega]
    by_cases c6 : k.toNat - m < 6
    · rw [if_pos c6, if_pos c6]
      simp [c, c6]
    · rw [if_neg c6, if_neg c6, Nat.testBit_lt_two_pow (x := P) (Nat.lt_of_lt_of_le hP (Nat.pow_le_pow_right (by omega) (by omega)))]
      simp [c6]
  · rw [if_pos (show k.toNat < m by omega), if_pos (show k.toNat < m by omega)]
    simp [c]
theorem sh_bits {A N : Nat} (hN : N < 2 ^ 6) (v1 : A < 4096) : (iI (A : Int) <<< iI 6) ||| iI (N : Int) = iI ((2 ^ 6 * A + N : Nat) : Int) := by
  refine sb_ext fun k k0 k1 => ?_
  rw [sb_or, sb_shl _ (by omega) (by omega) k0 k1, sb_tb _ (by omega) k0 k1, sb_tb _ (by omega) k0 k1, Nat.testBit_two_pow_mul_add _ hN]
  by_cases c : (6 : Int) ≤ k
  · rw [sb_tb _ (by omega) (by omega) (by omega), if_neg (show ¬ k.toNat < 6 by omega), show (k - 6).toNat = k.toNat - 6 by omega, Nat.testBit_lt_two_pow (x := N) (Nat.lt_of_lt_of_le hN (Nat.pow_le_pow_right (by omega) (by omega)))]
    simp [c]
  · rw [if_pos (show k.toNat < 6 by omega)]
    simp [c]
theorem st_shl (h1 : 0 ≤ a) (h2 : a < 4096) (h3 : 0 ≤ b) (h4 : b < 64) : (iI a <<< ((6 : Int32) &&& 31)) ||| iI b = iI (64 * a + b) := by
  have := sh_bits (A := a.toNat) (N := b.toNat) (by omega) (by omega)
  rw [show ((a.toNat : Nat) : Int) = a by omega, show ((b.toNat : Nat) : Int) = b by omega, show ((2 ^ 6 * a.toNat + b.toNat : Nat) : Int) = 64 * a + b by omega] at this
  exact this
theorem c_numberIn (s0 : 0 ≤ st) (s1 : st < 262144) (r0 : 0 ≤ r) (r3 : r < 3) : wp_X0_numberIn h (iI st) (iI r) post ↔ post h (iI (nIn st r)) := by
  unfold wp_X0_numberIn nIn
  have e : r = 0 ∨ r = 1 ∨ r = 2 := by omega
  rcases e with rfl | rfl | rfl
  · rw [show ((6 : Int32) * (2 - iI 0)) &&& 31 = iI 12 by decide, iI_shr12 (by omega) (by omega), show (63 : Int32) = iI 63 from rfl, iI_and63 (by omega) (by omega), if_pos rfl]
  · rw [show ((6 : Int32) * (2 - iI 1)) &&& 31 = iI 6 by decide, iI_shr6 (by omega) (by omega), show (63 : Int32) = iI 63 from rfl, iI_and63 (by omega) (by omega), if_neg (by omega), if_pos rfl]
  · rw [show ((6 : Int32) * (2 - iI 2)) &&& 31 = iI 0 by decide, iI_shr (by omega) (by omega) (by omega) (by omega), show (63 : Int32) = iI 63 from rfl, show st / 2 ^ (Int.toNat 0) = st by simp, iI_and63 (by omega) (by omega), if_neg (by omega), if_neg (by omega)]
theorem nIn_b : 0 ≤ nIn st r ∧ nIn st r < 64 := by
  unfold nIn
  split
  · omega
  · split <;> omega
theorem wp_wN {x0 x1 x2 m : Int32} (e : ((6 : Int32) * (2 - x1)) &&& 31 = m) : wp_X0_withNumber h x0 x1 x2 post ↔ post h ((x0 &&& ((iI 63 <<< m) ^^^ (-1 : Int32))) ||| (x2 <<< m)) := by
  unfold wp_X0_withNumber
  rw [show (63 : Int32) = iI 63 from rfl]
  constructor
  · intro u
    have := u _ rfl
    rw [e] at this
    exact this
  · intro u iv e'
    rw [e', e]
    exact u
theorem c_withNumber (s0 : 0 ≤ st) (s1 : st < 262144) (r0 : 0 ≤ r) (r3 : r < 3) (p0 : 0 ≤ p) (p1 : p < 64) : wp_X0_withNumber h (iI st) (iI r) (iI p) post ↔ post h (iI (wN st r p)) := by
  unfold wN
  have pe : ((p.toNat : Nat) : Int) = p := by omega
  have e : r = 0 ∨ r = 1 ∨ r = 2 := by omega
  rcases e with rfl | rfl | rfl
  · have := wn_bits (m := 12) (A := 0) (N := (st / 4096).toNat) (B := (st % 4096).toNat) (P := p.toNat) (by omega) (by omega) (by omega) (by omega) (by omega) (by omega)
    rw [show ((2 ^ 12 * (2 ^ 6 * 0 + (st / 4096).toNat) + (st % 4096).toNat : Nat) : Int) = st by omega, show ((2 ^ 12 * (2 ^ 6 * 0 + p.toNat) + (st % 4096).toNat : Nat) : Int) = st % 4096 + 4096 * p by omega, pe, show (((12 : Nat) : Int)) = 12 from rfl] at this
    rw [if_pos rfl, ← this]
    exact wp_wN (by decide)
  · have := wn_bits (m := 6) (A := (st / 4096).toNat) (N := (st / 64 % 64).toNat) (B := (st % 64).toNat) (P := p.toNat) (by omega) (by omega) (by omega) (by omega) (by omega) (by omega)
    rw [show ((2 ^ 6 * (2 ^ 6 * (st / 4096).toNat + (st / 64 % 64).toNat) + (st % 64).toNat : Nat) : Int) = st by omega, show ((2 ^ 6 * (2 ^ 6 * (st / 4096).toNat + p.toNat) + (st % 64).toNat : Nat) : Int) = st / 4096 * 4096 + 64 * p + st % 64 by omega, pe, show (((6 : Nat) : Int)) = 6 from rfl] at this
    rw [if_neg (by omega), if_pos rfl, ← this]
    exact wp_wN (by decide)
  · have := wn_bits (m := 0) (A := (st / 64).toNat) (N := (st % 64).toNat) (B := 0) (P := p.toNat) (by omega) (by omega) (by omega) (by omega) (by omega) (by omega)
    rw [show ((2 ^ 0 * (2 ^ 6 * (st / 64).toNat + (st % 64).toNat) + 0 : Nat) : Int) = st by omega, show ((2 ^ 0 * (2 ^ 6 * (st / 64).toNat + p.toNat) + 0 : Nat) : Int) = st / 64 * 64 + p by omega, pe, show (((0 : Nat) : Int)) = 0 from rfl] at this
    rw [if_neg (by omega), if_neg (by omega), ← this]
    exact wp_wN (by decide)
/-- what goes together with all others up to the last -/
theorem c_roomFor (S : CSh h) (s0 : 0 ≤ st) (s1 : st < 262144) (sb : ∀ o, 0 ≤ o → o < 3 → nIn st o < 40) (r0 : 0 ≤ r) (r3 : r < 3) (l0 : 0 ≤ last) (l3 : last < 3) (K : ∀ v : Int64, (∀ p, 0 ≤ p → p < 64 → (zb v p ↔ ∀ o, 0 ≤ o → o ≤ last → o ≠ r → zb (aJ h 86 ((3 * o + r) * 40 + nIn st o).toNat) p)) → postJ h v) : wp_X0_roomFor h 80 (iI r) (iI st) (iI last) postJ := by
  unfold wp_X0_roomFor
  intro v1 e1
  have L : ∀ (k : Nat) (i : Int) (v : Int64), 0 ≤ i → i + k = last + 1 → (∀ p, 0 ≤ p → p < 64 → (zb v p ↔ ∀ o, 0 ≤ o → o < i → o ≠ r → zb (aJ h 86 ((3 * o + r) * 40 + nIn st o).toNat) p)) → wl_X0_roomFor_8 postJ (k + 1) h 80 (iI r) (iI st) (iI last) v (iI i) := by
    intro k
    induction k with
    | zero =>
      intro i v i0 ie J
      show wb_X0_roomFor_8 (wl_X0_roomFor_8 postJ 0) h 80 (iI r) (iI st) (iI last) v (iI i) postJ
      unfold wb_X0_roomFor_8
      refine ⟨fun _ => K v fun p p0 p1 => ?_, fun u => absurd (by rw [iI_lt (by omega) (by omega) (by omega) (by omega)]; omega) u⟩
      rw [J p p0 p1]
      exact ⟨fun u o o0 o1 => u o o0 (by omega), fun u o o0 o1 => u o o0 (by omega)⟩
    | succ k ih =>
      intro i v i0 ie J
      show wb_X0_roomFor_8 (wl_X0_roomFor_8 postJ (k + 1)) h 80 (iI r) (iI st) (iI last) v (iI i) postJ
      unfold wb_X0_roomFor_8
      have nb := nIn_b (st := st) (r := i)
      have nb4 := sb i i0 (by omega)
      refine ⟨fun u => by rw [iI_lt (by omega) (by omega) (by omega) (by omega)] at u; omega, fun _ => ⟨fun u => by rw [show (3 : Int32) = iI 3 from rfl, iI_le (by omega) (by omega) (by omega) (by omega)] at u; omega, fun _ => ⟨fun u => ?_, fun u => ?_⟩⟩⟩
      · rw [iI_eq (by omega) (by omega) (by omega) (by omega)] at u
        unfold wb_X0_roomFor_52
        intro v2 e2
        rw [e2, show (1 : Int32) = iI 1 from rfl, iI_add]
        refine ih (i + 1) v (by omega) (by omega) fun p p0 p1 => ?_
        rw [J p p0 p1]
        exact ⟨fun w o o0 o1 o2 => w o o0 (by omega) o2, fun w o o0 o1 o2 => w o o0 (by omega) o2⟩
      · rw [iI_eq (by omega) (by omega) (by omega) (by omega)] at u
        refine ⟨S.o80, 86, S.p80_6, (c_numberIn s0 s1 i0 (by omega)).mpr ?_⟩
        have e3 : ((iI i * 3 + iI r) * 40) + iI (nIn st i) = iI ((3 * i + r) * 40 + nIn st i) := by
          rw [show (3 : Int32) = iI 3 from rfl, show (40 : Int32) = iI 40 from rfl, iI_mul, iI_add, iI_mul, iI_add, show (i * 3 + r) * 40 + nIn st i = (3 * i + r) * 40 + nIn st i by omega]
        rw [e3, S.l86]
        refine ⟨S.o86, iI_in (by omega) (by omega) (by omega), fun v3 e4 => ?_⟩
        unfold wb_X0_roomFor_52
        intro v2 e2
        rw [e2, show (1 : Int32) = iI 1 from rfl, iI_add]
        refine ih (i + 1) v3 (by omega) (by omega) fun p p0 p1 => ?_
        rw [e4, zb_and, J p p0 p1, iI_n (by omega) (by omega)]
        refine ⟨fun w o o0 o1 o2 => ?_, fun w => ⟨fun o o0 o1 o2 => w o o0 (by omega) o2, w i i0 (by omega) u⟩⟩
        by_cases co : o = i
        · rw [co]; exact w.2
        · exact w.1 o o0 (by omega) o2
  refine ⟨(last + 1).toNat + 1, L _ 0 v1 (by omega) (by omega) fun p p0 p1 => ⟨fun _ o o0 o1 => by omega, fun _ => ?_⟩⟩
  rw [e1]
  unfold zb
  rw [show (-1 : Int64).toBitVec = BitVec.allOnes 64 by decide +kernel, BitVec.getLsbD_allOnes]
  simp
  omega
/-- states seen -/
def snB (h : AH) (v : Int) : Prop := zb (aJ h 75 (40 * (v / 4096) + v / 64 % 64).toNat) (v % 64)
def okS (v : Int) : Prop := 0 ≤ v ∧ v / 4096 < 40 ∧ v / 64 % 64 < 40
theorem c_isNew (S : CSh h) (hv : okS v) (K1 : ∀ h', ¬ snB h v → Fr [] [75] [] h h' → (∀ u, okS u → (snB h' u ↔ snB h u ∨ u = v)) → post h' (iI 1)) (K0 : snB h v → post h (iI 0)) : wp_X6_isNew h 74 (iI v) post := by
  obtain ⟨v0, v1, v2⟩ := hv
  have e6 : iI v >>> (iI 6 &&& iI 31) = iI (v / 64) := by rw [iI_shm (by omega) (by omega), iI_shr6 (by omega) (by omega)]
  have e12 : iI v >>> iI 12 = iI (v / 4096) := by rw [iI_shr12 (by omega) (by omega)]
  have e16 : nI 1600 = iI 1600 := rfl
  unfold wp_X6_isNew
  simp (disch := omega) only [CSh.o0 S, CSh.o1 S, CSh.o2 S, CSh.o3 S, CSh.o26 S, CSh.o27 S, CSh.o29 S, CSh.o30 S, CSh.o31 S, CSh.o56 S, CSh.o57 S, CSh.o58 S, CSh.o62 S, CSh.o66 S, CSh.o70 S, CSh.o74 S, CSh.o75 S, CSh.o77 S, CSh.o79 S, CSh.o80 S, CSh.o81 S, CSh.o82 S, CSh.o83 S, CSh.o84 S, CSh.o85 S, CSh.o86 S, CSh.o87 S, CSh.o88 S, CSh.o53 S, CSh.o54 S, CSh.o55 S, CSh.o59 S, CSh.o60 S, CSh.o61 S, CSh.o63 S, CSh.o64 S, CSh.o65 S, CSh.o67 S, CSh.o68 S, CSh.o69 S, CSh.o71 S, CSh.o72 S, CSh.o73 S, CSh.o89 S, CSh.o90 S, CSh.o91 S, CSh.l1 S, CSh.l3 S, CSh.l27 S, CSh.l29 S, CSh.l30 S, CSh.l56 S, CSh.l57 S, CSh.l58 S, CSh.l75 S, CSh.l77 S, CSh.l79 S, CSh.l81 S, CSh.l82 S, CSh.l83 S, CSh.l84 S, CSh.l85 S, CSh.l86 S, CSh.l87 S, CSh.l88 S, CSh.l54 S, CSh.l55 S, CSh.l60 S, CSh.l61 S, CSh.l64 S, CSh.l65 S, CSh.l68 S, CSh.l69 S, CSh.l72 S, CSh.l73 S, CSh.l90 S, CSh.l91 S, CSh.p0_0 S, CSh.p0_3 S, CSh.p0_4 S, CSh.p0_5 S, CSh.p0_6 S, CSh.p0_7 S, CSh.p0_8 S, CSh.p0_9 S, CSh.p0_10 S, CSh.p0_14 S, CSh.p2_0 S, CSh.p26_0 S, CSh.p26_13 S, CSh.p26_14 S, CSh.p31_1 S, CSh.p31_3 S, CSh.p31_4 S, CSh.p62_0 S, CSh.p66_0 S, CSh.p70_0 S, CSh.p74_0 S, CSh.p74_1 S, CSh.p74_6 S, CSh.p74_7 S, CSh.p74_10 S, CSh.p80_1 S, CSh.p80_2 S, CSh.p80_3 S, CSh.p80_4 S, CSh.p80_5 S, CSh.p80_6 S, CSh.p80_7 S, CSh.p80_8 S, CSh.p53_1 S, CSh.p53_2 S, CSh.p59_1 S, CSh.p59_2 S, CSh.p63_1 S, CSh.p63_2 S, CSh.p67_1 S, CSh.p67_2 S, CSh.p71_1 S, CSh.p71_2 S, CSh.p89_1 S, CSh.p89_2 S, e6, e12, e16, lgc, z_and1, -Int.reduceToNat, -Int32.reduceToNatClampNeg, il0, il1, il2, il3, il4, il5, il6, il7, il8, il9, il10, il11, il12, il13, il14, il15, il16, il17, il18, il19, il20, il21, il22, il23, il24, il25, il26, il27, il28, il29, il30, il31, il32, il35, il36, il38, il40, il42, il43, il44, il45, il46, il47, il48, il49, il50, il51, il52, il57, il59, il60, il63, il64, il75, il80, il95, il96, il97, il98, il99, il100, il120, il122, il123, il127, il128, il135, il167, il175, il225, il249, il250, il255, il256, il360, il370, il384, il600, il700, il740, il900, il940, il1024, il1600, il4800, il64000, il125000, il262143, il1000000000, iI_toInt, iI_add, iI_sub, iI_mul, iI_neg, iI_lt, iI_le, iI_eq, iI_n, iI_in, iI_div, iI_mod, iI_shm, iI_and1, iI_and7, iI_and63, iI_shr3, iI_shr6, rd_I, ob, Option.some.injEq, exists_eq_left', exists_eq_left, true_and, and_true, fqI, fqJ, eq_self, true_or, or_true, bP_0, bP_0i, npP, bP_1i, bP_b, not_true_eq_false, not_false_eq_true, false_implies, true_implies, implies_true, Classical.not_not, and_self]
  refine ⟨fun c => by omega, fun _ => ⟨fun c => ?_, fun c => K0 ?_⟩⟩
  · intro g1 w1
    have f1 : Fr [] [75] [] h g1 := by rw [w1]; exact fr_hJ
    refine K1 g1 (by unfold snB; rw [show 40 * (v / 4096) = v / 4096 * 40 by omega]; exact c) f1 fun u hu => ?_
    obtain ⟨u0, u1, u2⟩ := hu
    unfold snB
    rw [w1, aJ_hJ]
    by_cases cu : u / 4096 = v / 4096 ∧ u / 64 % 64 = v / 64 % 64
    · rw [if_pos (by omega), zb_or, zb_one1 (by omega) (by omega) (by omega) (by omega), cu.1, cu.2, show 40 * (v / 4096) = v / 4096 * 40 by omega]
      refine ⟨fun q => q.elim Or.inl (fun e => Or.inr (by omega)), fun q => q.elim Or.inl (fun e => Or.inr (by omega))⟩
    · rw [if_neg (by omega)]
      exact ⟨Or.inl, fun q => q.elim id (fun e => absurd (by rw [e]; exact ⟨rfl, rfl⟩) cu)⟩
  · unfold snB; rw [show 40 * (v / 4096) = v / 4096 * 40 by omega]; exact c
end NUM
