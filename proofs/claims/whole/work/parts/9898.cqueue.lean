/-! the class's queue -/
section NUM
variable {a b c f k x w : Int}
theorem z_shl (h1 : 0 ≤ a) (h2 : 0 ≤ k) (h3 : k < 64) : (Int64.ofInt a <<< ((iI k).toInt64 &&& 63)) = Int64.ofInt (a * 2 ^ k.toNat) := by
  apply Int64.toBitVec_inj.mp
  have e5 : (Int64.ofInt a <<< ((iI k).toInt64 &&& 63)).toBitVec = (Int64.ofInt a).toBitVec <<< k.toNat := by
    rw [iI_nat h2, sl64 _ (by omega)]
    show (Int64.ofInt a).toBitVec <<< ((BitVec.ofNat 64 k.toNat).smod 64) = _
    rw [BitVec.shiftLeft_eq', sm64 _ (by omega)]
  have p0 : 0 ≤ a * 2 ^ k.toNat := Int.mul_nonneg h1 (Int.le_of_lt (Int.pow_pos (by omega)))
  rw [e5, z_bv h1, z_bv p0]
  apply BitVec.eq_of_toNat_eq
  rw [BitVec.toNat_shiftLeft, BitVec.toNat_ofNat, BitVec.toNat_ofNat, Nat.shiftLeft_eq, Nat.mod_mul_mod]
  congr 1
  have : ((a.toNat * 2 ^ k.toNat : Nat) : Int) = a * 2 ^ k.toNat := by
    rw [Int.natCast_mul, Int.toNat_of_nonneg h1, Int.natCast_pow]; rfl
  omega
theorem z_or {n : Nat} (h1 : 0 ≤ a) (h2 : 0 ≤ b) (h3 : b < 2 ^ n) (h4 : a * 2 ^ n + b < 9223372036854775808) : Int64.ofInt (a * 2 ^ n) ||| Int64.ofInt b = Int64.ofInt (a * 2 ^ n + b) := by
  apply Int64.toBitVec_inj.mp
  have p0 : 0 ≤ a * 2 ^ n := Int.mul_nonneg h1 (Int.le_of_lt (Int.pow_pos (by omega)))
  have ea : ((a.toNat * 2 ^ n : Nat) : Int) = a * 2 ^ n := by
    rw [Int.natCast_mul, Int.toNat_of_nonneg h1, Int.natCast_pow]; rfl
  have eb : (b.toNat : Int) < ((2 ^ n : Nat) : Int) := by rw [Int.natCast_pow]; rw [Int.toNat_of_nonneg h2]; exact h3
  rw [Int64.toBitVec_or, z_bv p0, z_bv h2, z_bv (by omega)]
  apply BitVec.eq_of_toNat_eq
  rw [BitVec.toNat_or, BitVec.toNat_ofNat, BitVec.toNat_ofNat, BitVec.toNat_ofNat, Nat.mod_eq_of_lt (by omega), Nat.mod_eq_of_lt (by omega), Nat.mod_eq_of_lt (by omega)]
  have e1 : (a * 2 ^ n).toNat = a.toNat <<< n := by rw [Nat.shiftLeft_eq]; omega
  rw [e1, ← Nat.shiftLeft_add_eq_or_of_lt (by omega), Nat.shiftLeft_eq]
  omega
theorem z_pack (h1 : 0 ≤ f ∧ f < 64000) (h2 : 0 ≤ b ∧ b < 64) (h3 : 0 ≤ x ∧ x < 262144) : (((iI f).toInt64 <<< ((iI 24).toInt64 &&& 63)) ||| ((iI b).toInt64 <<< ((iI 18).toInt64 &&& 63))) ||| (iI x).toInt64 = Int64.ofInt (f * 16777216 + b * 262144 + x) := by
  rw [z_of (c := f) (by omega) (by omega), z_of (c := b) (by omega) (by omega), z_of (c := x) (by omega) (by omega), z_shl (by omega) (by omega) (by omega), z_shl (by omega) (by omega) (by omega)]
  have e1 := z_or (n := 24) (a := f) (b := b * 262144) h1.1 (by omega) (by show b * 262144 < 16777216; omega) (by show f * 16777216 + b * 262144 < _; omega)
  have e2 := z_or (n := 18) (a := f * 64 + b) (b := x) (by omega) h3.1 (by show x < 262144; omega) (by show (f * 64 + b) * 262144 + x < _; omega)
  have e3 : f * 2 ^ (24 : Nat) + b * 262144 = (f * 64 + b) * 2 ^ (18 : Nat) := by show f * 16777216 + b * 262144 = (f * 64 + b) * 262144; omega
  show (Int64.ofInt (f * 2 ^ (24 : Nat)) ||| Int64.ofInt (b * 262144)) ||| Int64.ofInt x = _
  rw [e1, e3, e2]
  congr 1
  show (f * 64 + b) * 262144 + x = _
  omega
theorem iI_and18 : iI a &&& iI 262143 = iI (a % 262144) := by
  apply Int32.toBitVec_inj.mp
  rw [Int32.toBitVec_and]
  have e1 : (iI a).toBitVec = BitVec.ofInt 32 a := rfl
  have e2 : (iI 262143).toBitVec = BitVec.ofNat 32 262143 := by decide
  have e3 : (iI (a % 262144)).toBitVec = BitVec.ofInt 32 (a % 262144) := rfl
  rw [e1, e2, e3]
  apply BitVec.eq_of_toNat_eq
  rw [BitVec.toNat_and, BitVec.toNat_ofInt, BitVec.toNat_ofInt, BitVec.toNat_ofNat]
  show (a % 4294967296).toNat &&& (2 ^ 18 - 1) = (a % 262144 % 4294967296).toNat
  rw [Nat.and_two_pow_sub_one_eq_mod]
  omega
theorem z_i32 : (Int64.ofInt w).toInt32 = iI w := Int64.toInt32_ofInt
theorem z_shr (h1 : 0 ≤ w) (h2 : w < 9223372036854775808) (h3 : 0 ≤ k) (h4 : k < 64) : (Int64.ofInt w >>> ((iI k).toInt64 &&& 63)) = Int64.ofInt (w / 2 ^ k.toNat) := by
  have e : (Int64.ofInt w >>> ((iI k).toInt64 &&& 63)).toInt = w / 2 ^ k.toNat := by
    rw [iI_nat h3, sl64 _ (by omega)]
    show (BitVec.sshiftRight' (Int64.ofInt w).toBitVec ((BitVec.ofNat 64 k.toNat).smod 64)).toInt = _
    rw [BitVec.toInt_sshiftRight', sm64 _ (by omega), Int.shiftRight_eq_div_pow]
    show (Int64.ofInt w).toInt / _ = _
    rw [Int64.toInt_ofInt_of_le (by omega) (by omega)]
    rfl
  rw [← Int64.ofInt_toInt (Int64.ofInt w >>> ((iI k).toInt64 &&& 63)), e]
end NUM
def sWi : List Nat := [74, 81, 82, 84, 85, 90]
def sWj (qa : Nat) : List Nat := [75, 83, 86, 91, qa]
def sWq : List (Nat × Nat) := [(74, 2), (80, 0), (89, 0)]
def CQ (h0 h : AH) (qa0 qa : Nat) (t g : Int) (X F B : Int → Int) : Prop := (CSh h) ∧ (Gr sWi (sWj qa0) sWq h0 h) ∧ (119 ≤ aN h0) ∧ (aP h 74 2 = some qa) ∧ (ob h qa 14) ∧ (256 ≤ aL h qa ∧ aL h qa ≤ 128000) ∧ (qa = 76 ∨ 119 ≤ qa) ∧ (qa = qa0 ∨ aN h0 ≤ qa) ∧ (256 * aN h + aL h0 qa0 ≤ 256 * aN h0 + aL h qa) ∧ (aS h + 2 * aL h0 qa0 = aS h0 + 2 * aL h qa) ∧ (rd h 74 3 = t) ∧ (0 ≤ t ∧ t ≤ 64000) ∧ (t ≤ aL h qa) ∧ (rd h 74 4 = g) ∧ ((rd h 74 5 = -1 ∧ ∀ j, 0 ≤ j → j < t → X j ≠ g) ∨ (0 ≤ rd h 74 5 ∧ rd h 74 5 < t ∧ X (rd h 74 5) = g)) ∧ (∀ j, 0 ≤ j → j < t → aJ h qa j.toNat = Int64.ofInt (F j * 16777216 + B j * 262144 + X j)) ∧ (∀ j, 0 ≤ j → j < t → (0 ≤ X j ∧ X j < 262144) ∧ (0 ≤ B j ∧ B j < 64) ∧ (0 ≤ F j ∧ F j < 64000)) ∧ (∀ j, 5 < j → rd h 74 j = rd h0 74 j)
theorem CQ.S {h0 h : AH} {qa0 qa : Nat} {t g : Int} {X F B : Int → Int} (R : CQ h0 h qa0 qa t g X F B) : CSh h := R.1
theorem CQ.G {h0 h : AH} {qa0 qa : Nat} {t g : Int} {X F B : Int → Int} (R : CQ h0 h qa0 qa t g X F B) : Gr sWi (sWj qa0) sWq h0 h := R.2.1
theorem CQ.n0 {h0 h : AH} {qa0 qa : Nat} {t g : Int} {X F B : Int → Int} (R : CQ h0 h qa0 qa t g X F B) : 119 ≤ aN h0 := R.2.2.1
theorem CQ.p2 {h0 h : AH} {qa0 qa : Nat} {t g : Int} {X F B : Int → Int} (R : CQ h0 h qa0 qa t g X F B) : aP h 74 2 = some qa := R.2.2.2.1
theorem CQ.oq {h0 h : AH} {qa0 qa : Nat} {t g : Int} {X F B : Int → Int} (R : CQ h0 h qa0 qa t g X F B) : ob h qa 14 := R.2.2.2.2.1
theorem CQ.ql {h0 h : AH} {qa0 qa : Nat} {t g : Int} {X F B : Int → Int} (R : CQ h0 h qa0 qa t g X F B) : 256 ≤ aL h qa ∧ aL h qa ≤ 128000 := R.2.2.2.2.2.1
theorem CQ.qd {h0 h : AH} {qa0 qa : Nat} {t g : Int} {X F B : Int → Int} (R : CQ h0 h qa0 qa t g X F B) : qa = 76 ∨ 119 ≤ qa := R.2.2.2.2.2.2.1
theorem CQ.nw {h0 h : AH} {qa0 qa : Nat} {t g : Int} {X F B : Int → Int} (R : CQ h0 h qa0 qa t g X F B) : qa = qa0 ∨ aN h0 ≤ qa := R.2.2.2.2.2.2.2.1
theorem CQ.rN {h0 h : AH} {qa0 qa : Nat} {t g : Int} {X F B : Int → Int} (R : CQ h0 h qa0 qa t g X F B) : 256 * aN h + aL h0 qa0 ≤ 256 * aN h0 + aL h qa := R.2.2.2.2.2.2.2.2.1
theorem CQ.rS {h0 h : AH} {qa0 qa : Nat} {t g : Int} {X F B : Int → Int} (R : CQ h0 h qa0 qa t g X F B) : aS h + 2 * aL h0 qa0 = aS h0 + 2 * aL h qa := R.2.2.2.2.2.2.2.2.2.1
theorem CQ.tt {h0 h : AH} {qa0 qa : Nat} {t g : Int} {X F B : Int → Int} (R : CQ h0 h qa0 qa t g X F B) : rd h 74 3 = t := R.2.2.2.2.2.2.2.2.2.2.1
theorem CQ.tb {h0 h : AH} {qa0 qa : Nat} {t g : Int} {X F B : Int → Int} (R : CQ h0 h qa0 qa t g X F B) : 0 ≤ t ∧ t ≤ 64000 := R.2.2.2.2.2.2.2.2.2.2.2.1
theorem CQ.tl {h0 h : AH} {qa0 qa : Nat} {t g : Int} {X F B : Int → Int} (R : CQ h0 h qa0 qa t g X F B) : t ≤ aL h qa := R.2.2.2.2.2.2.2.2.2.2.2.2.1
theorem CQ.gl {h0 h : AH} {qa0 qa : Nat} {t g : Int} {X F B : Int → Int} (R : CQ h0 h qa0 qa t g X F B) : rd h 74 4 = g := R.2.2.2.2.2.2.2.2.2.2.2.2.2.1
theorem CQ.gg {h0 h : AH} {qa0 qa : Nat} {t g : Int} {X F B : Int → Int} (R : CQ h0 h qa0 qa t g X F B) : (rd h 74 5 = -1 ∧ ∀ j, 0 ≤ j → j < t → X j ≠ g) ∨ (0 ≤ rd h 74 5 ∧ rd h 74 5 < t ∧ X (rd h 74 5) = g) := R.2.2.2.2.2.2.2.2.2.2.2.2.2.2.1
theorem CQ.qq {h0 h : AH} {qa0 qa : Nat} {t g : Int} {X F B : Int → Int} (R : CQ h0 h qa0 qa t g X F B) : ∀ j, 0 ≤ j → j < t → aJ h qa j.toNat = Int64.ofInt (F j * 16777216 + B j * 262144 + X j) := R.2.2.2.2.2.2.2.2.2.2.2.2.2.2.2.1
theorem CQ.xb {h0 h : AH} {qa0 qa : Nat} {t g : Int} {X F B : Int → Int} (R : CQ h0 h qa0 qa t g X F B) : ∀ j, 0 ≤ j → j < t → (0 ≤ X j ∧ X j < 262144) ∧ (0 ≤ B j ∧ B j < 64) ∧ (0 ≤ F j ∧ F j < 64000) := R.2.2.2.2.2.2.2.2.2.2.2.2.2.2.2.2.1
theorem CQ.ro {h0 h : AH} {qa0 qa : Nat} {t g : Int} {X F B : Int → Int} (R : CQ h0 h qa0 qa t g X F B) : ∀ j, 5 < j → rd h 74 j = rd h0 74 j := R.2.2.2.2.2.2.2.2.2.2.2.2.2.2.2.2.2
section CQS
variable {h h1 h2 h' h0 g0 : AH} {qa0 qa : Nat} {postV : AH → Prop} {post : AH → Int32 → Prop} {postN : AH → Nat → Prop} {a b c d f g i j k t v w x y : Int} {X F B : Int → Int}
theorem c_stateAt (C : CQ h0 h qa0 qa t g X F B) (j0 : 0 ≤ j) (j1 : j < t) : wp_X6_stateAt h 74 (iI j) post ↔ post h (iI (X j)) := by
  have S := C.S
  have p2 := C.p2
  have oq := C.oq
  have tl := C.tl
  have ql := C.ql
  have q := C.qq j j0 j1
  have xb := C.xb j j0 j1
  unfold wp_X6_stateAt
  simp (disch := omega) only [CSh.o0 S, CSh.o1 S, CSh.o2 S, CSh.o3 S, CSh.o26 S, CSh.o27 S, CSh.o29 S, CSh.o30 S, CSh.o31 S, CSh.o56 S, CSh.o57 S, CSh.o58 S, CSh.o62 S, CSh.o66 S, CSh.o70 S, CSh.o74 S, CSh.o75 S, CSh.o77 S, CSh.o79 S, CSh.o80 S, CSh.o81 S, CSh.o82 S, CSh.o83 S, CSh.o84 S, CSh.o85 S, CSh.o86 S, CSh.o87 S, CSh.o88 S, CSh.o53 S, CSh.o54 S, CSh.o55 S, CSh.o59 S, CSh.o60 S, CSh.o61 S, CSh.o63 S, CSh.o64 S, CSh.o65 S, CSh.o67 S, CSh.o68 S, CSh.o69 S, CSh.o71 S, CSh.o72 S, CSh.o73 S, CSh.o89 S, CSh.o90 S, CSh.o91 S, CSh.l1 S, CSh.l3 S, CSh.l27 S, CSh.l29 S, CSh.l30 S, CSh.l56 S, CSh.l57 S, CSh.l58 S, CSh.l75 S, CSh.l77 S, CSh.l79 S, CSh.l81 S, CSh.l82 S, CSh.l83 S, CSh.l84 S, CSh.l85 S, CSh.l86 S, CSh.l87 S, CSh.l88 S, CSh.l54 S, CSh.l55 S, CSh.l60 S, CSh.l61 S, CSh.l64 S, CSh.l65 S, CSh.l68 S, CSh.l69 S, CSh.l72 S, CSh.l73 S, CSh.l90 S, CSh.l91 S, CSh.p0_0 S, CSh.p0_3 S, CSh.p0_4 S, CSh.p0_5 S, CSh.p0_6 S, CSh.p0_7 S, CSh.p0_8 S, CSh.p0_9 S, CSh.p0_10 S, CSh.p0_14 S, CSh.p2_0 S, CSh.p26_0 S, CSh.p26_13 S, CSh.p26_14 S, CSh.p31_1 S, CSh.p31_3 S, CSh.p31_4 S, CSh.p62_0 S, CSh.p66_0 S, CSh.p70_0 S, CSh.p74_0 S, CSh.p74_1 S, CSh.p74_6 S, CSh.p74_7 S, CSh.p74_10 S, CSh.p80_1 S, CSh.p80_2 S, CSh.p80_3 S, CSh.p80_4 S, CSh.p80_5 S, CSh.p80_6 S, CSh.p80_7 S, CSh.p80_8 S, CSh.p53_1 S, CSh.p53_2 S, CSh.p59_1 S, CSh.p59_2 S, CSh.p63_1 S, CSh.p63_2 S, CSh.p67_1 S, CSh.p67_2 S, CSh.p71_1 S, CSh.p71_2 S, CSh.p89_1 S, CSh.p89_2 S, p2, oq, q, z_i32, iI_and18, -Int.reduceToNat, -Int32.reduceToNatClampNeg, il0, il1, il2, il3, il4, il5, il6, il7, il8, il9, il10, il11, il12, il13, il14, il15, il16, il17, il18, il19, il20, il21, il22, il23, il24, il25, il26, il27, il28, il29, il30, il31, il32, il35, il36, il38, il40, il42, il43, il44, il45, il46, il47, il48, il49, il50, il51, il52, il57, il59, il60, il63, il64, il75, il80, il95, il96, il97, il98, il99, il100, il120, il122, il123, il127, il128, il135, il167, il175, il225, il249, il250, il255, il256, il360, il370, il384, il600, il700, il740, il900, il940, il1024, il1600, il4800, il64000, il125000, il262143, il1000000000, iI_toInt, iI_add, iI_sub, iI_mul, iI_neg, iI_lt, iI_le, iI_eq, iI_n, iI_in, iI_div, iI_mod, iI_shm, iI_and1, iI_and7, iI_and63, iI_shr3, iI_shr6, rd_I, ob, Option.some.injEq, exists_eq_left', exists_eq_left, true_and, and_true, fqI, fqJ, eq_self, true_or, or_true, bP_0, bP_0i, npP, bP_1i, bP_b, not_true_eq_false, not_false_eq_true, false_implies, true_implies, implies_true, Classical.not_not, and_self]
  rw [show (F j * 16777216 + B j * 262144 + X j) % 262144 = X j by omega]
theorem c_actAt (C : CQ h0 h qa0 qa t g X F B) (j0 : 0 ≤ j) (j1 : j < t) : wp_X6_actAt h 74 (iI j) post ↔ post h (iI (B j)) := by
  have S := C.S
  have p2 := C.p2
  have oq := C.oq
  have tl := C.tl
  have ql := C.ql
  have q := C.qq j j0 j1
  have xb := C.xb j j0 j1
  have e : (F j * 16777216 + B j * 262144 + X j) / 2 ^ (18 : Int).toNat = F j * 64 + B j := by show _ / 262144 = _; omega
  unfold wp_X6_actAt
  simp (disch := omega) only [CSh.o0 S, CSh.o1 S, CSh.o2 S, CSh.o3 S, CSh.o26 S, CSh.o27 S, CSh.o29 S, CSh.o30 S, CSh.o31 S, CSh.o56 S, CSh.o57 S, CSh.o58 S, CSh.o62 S, CSh.o66 S, CSh.o70 S, CSh.o74 S, CSh.o75 S, CSh.o77 S, CSh.o79 S, CSh.o80 S, CSh.o81 S, CSh.o82 S, CSh.o83 S, CSh.o84 S, CSh.o85 S, CSh.o86 S, CSh.o87 S, CSh.o88 S, CSh.o53 S, CSh.o54 S, CSh.o55 S, CSh.o59 S, CSh.o60 S, CSh.o61 S, CSh.o63 S, CSh.o64 S, CSh.o65 S, CSh.o67 S, CSh.o68 S, CSh.o69 S, CSh.o71 S, CSh.o72 S, CSh.o73 S, CSh.o89 S, CSh.o90 S, CSh.o91 S, CSh.l1 S, CSh.l3 S, CSh.l27 S, CSh.l29 S, CSh.l30 S, CSh.l56 S, CSh.l57 S, CSh.l58 S, CSh.l75 S, CSh.l77 S, CSh.l79 S, CSh.l81 S, CSh.l82 S, CSh.l83 S, CSh.l84 S, CSh.l85 S, CSh.l86 S, CSh.l87 S, CSh.l88 S, CSh.l54 S, CSh.l55 S, CSh.l60 S, CSh.l61 S, CSh.l64 S, CSh.l65 S, CSh.l68 S, CSh.l69 S, CSh.l72 S, CSh.l73 S, CSh.l90 S, CSh.l91 S, CSh.p0_0 S, CSh.p0_3 S, CSh.p0_4 S, CSh.p0_5 S, CSh.p0_6 S, CSh.p0_7 S, CSh.p0_8 S, CSh.p0_9 S, CSh.p0_10 S, CSh.p0_14 S, CSh.p2_0 S, CSh.p26_0 S, CSh.p26_13 S, CSh.p26_14 S, CSh.p31_1 S, CSh.p31_3 S, CSh.p31_4 S, CSh.p62_0 S, CSh.p66_0 S, CSh.p70_0 S, CSh.p74_0 S, CSh.p74_1 S, CSh.p74_6 S, CSh.p74_7 S, CSh.p74_10 S, CSh.p80_1 S, CSh.p80_2 S, CSh.p80_3 S, CSh.p80_4 S, CSh.p80_5 S, CSh.p80_6 S, CSh.p80_7 S, CSh.p80_8 S, CSh.p53_1 S, CSh.p53_2 S, CSh.p59_1 S, CSh.p59_2 S, CSh.p63_1 S, CSh.p63_2 S, CSh.p67_1 S, CSh.p67_2 S, CSh.p71_1 S, CSh.p71_2 S, CSh.p89_1 S, CSh.p89_2 S, p2, oq, q, z_shr, e, z_i32, -Int.reduceToNat, -Int32.reduceToNatClampNeg, il0, il1, il2, il3, il4, il5, il6, il7, il8, il9, il10, il11, il12, il13, il14, il15, il16, il17, il18, il19, il20, il21, il22, il23, il24, il25, il26, il27, il28, il29, il30, il31, il32, il35, il36, il38, il40, il42, il43, il44, il45, il46, il47, il48, il49, il50, il51, il52, il57, il59, il60, il63, il64, il75, il80, il95, il96, il97, il98, il99, il100, il120, il122, il123, il127, il128, il135, il167, il175, il225, il249, il250, il255, il256, il360, il370, il384, il600, il700, il740, il900, il940, il1024, il1600, il4800, il64000, il125000, il262143, il1000000000, iI_toInt, iI_add, iI_sub, iI_mul, iI_neg, iI_lt, iI_le, iI_eq, iI_n, iI_in, iI_div, iI_mod, iI_shm, iI_and1, iI_and7, iI_and63, iI_shr3, iI_shr6, rd_I, ob, Option.some.injEq, exists_eq_left', exists_eq_left, true_and, and_true, fqI, fqJ, eq_self, true_or, or_true, bP_0, bP_0i, npP, bP_1i, bP_b, not_true_eq_false, not_false_eq_true, false_implies, true_implies, implies_true, Classical.not_not, and_self]
  rw [show (F j * 64 + B j) % 64 = B j by omega]
theorem c_fromAt (C : CQ h0 h qa0 qa t g X F B) (j0 : 0 ≤ j) (j1 : j < t) : wp_X6_fromAt h 74 (iI j) post ↔ post h (iI (F j)) := by
  have S := C.S
  have p2 := C.p2
  have oq := C.oq
  have tl := C.tl
  have ql := C.ql
  have q := C.qq j j0 j1
  have xb := C.xb j j0 j1
  have e : (F j * 16777216 + B j * 262144 + X j) / 2 ^ (24 : Int).toNat = F j := by show _ / 16777216 = _; omega
  unfold wp_X6_fromAt
  simp (disch := omega) only [CSh.o0 S, CSh.o1 S, CSh.o2 S, CSh.o3 S, CSh.o26 S, CSh.o27 S, CSh.o29 S, CSh.o30 S, CSh.o31 S, CSh.o56 S, CSh.o57 S, CSh.o58 S, CSh.o62 S, CSh.o66 S, CSh.o70 S, CSh.o74 S, CSh.o75 S, CSh.o77 S, CSh.o79 S, CSh.o80 S, CSh.o81 S, CSh.o82 S, CSh.o83 S, CSh.o84 S, CSh.o85 S, CSh.o86 S, CSh.o87 S, CSh.o88 S, CSh.o53 S, CSh.o54 S, CSh.o55 S, CSh.o59 S, CSh.o60 S, CSh.o61 S, CSh.o63 S, CSh.o64 S, CSh.o65 S, CSh.o67 S, CSh.o68 S, CSh.o69 S, CSh.o71 S, CSh.o72 S, CSh.o73 S, CSh.o89 S, CSh.o90 S, CSh.o91 S, CSh.l1 S, CSh.l3 S, CSh.l27 S, CSh.l29 S, CSh.l30 S, CSh.l56 S, CSh.l57 S, CSh.l58 S, CSh.l75 S, CSh.l77 S, CSh.l79 S, CSh.l81 S, CSh.l82 S, CSh.l83 S, CSh.l84 S, CSh.l85 S, CSh.l86 S, CSh.l87 S, CSh.l88 S, CSh.l54 S, CSh.l55 S, CSh.l60 S, CSh.l61 S, CSh.l64 S, CSh.l65 S, CSh.l68 S, CSh.l69 S, CSh.l72 S, CSh.l73 S, CSh.l90 S, CSh.l91 S, CSh.p0_0 S, CSh.p0_3 S, CSh.p0_4 S, CSh.p0_5 S, CSh.p0_6 S, CSh.p0_7 S, CSh.p0_8 S, CSh.p0_9 S, CSh.p0_10 S, CSh.p0_14 S, CSh.p2_0 S, CSh.p26_0 S, CSh.p26_13 S, CSh.p26_14 S, CSh.p31_1 S, CSh.p31_3 S, CSh.p31_4 S, CSh.p62_0 S, CSh.p66_0 S, CSh.p70_0 S, CSh.p74_0 S, CSh.p74_1 S, CSh.p74_6 S, CSh.p74_7 S, CSh.p74_10 S, CSh.p80_1 S, CSh.p80_2 S, CSh.p80_3 S, CSh.p80_4 S, CSh.p80_5 S, CSh.p80_6 S, CSh.p80_7 S, CSh.p80_8 S, CSh.p53_1 S, CSh.p53_2 S, CSh.p59_1 S, CSh.p59_2 S, CSh.p63_1 S, CSh.p63_2 S, CSh.p67_1 S, CSh.p67_2 S, CSh.p71_1 S, CSh.p71_2 S, CSh.p89_1 S, CSh.p89_2 S, p2, oq, q, z_shr, e, z_i32, -Int.reduceToNat, -Int32.reduceToNatClampNeg, il0, il1, il2, il3, il4, il5, il6, il7, il8, il9, il10, il11, il12, il13, il14, il15, il16, il17, il18, il19, il20, il21, il22, il23, il24, il25, il26, il27, il28, il29, il30, il31, il32, il35, il36, il38, il40, il42, il43, il44, il45, il46, il47, il48, il49, il50, il51, il52, il57, il59, il60, il63, il64, il75, il80, il95, il96, il97, il98, il99, il100, il120, il122, il123, il127, il128, il135, il167, il175, il225, il249, il250, il255, il256, il360, il370, il384, il600, il700, il740, il900, il940, il1024, il1600, il4800, il64000, il125000, il262143, il1000000000, iI_toInt, iI_add, iI_sub, iI_mul, iI_neg, iI_lt, iI_le, iI_eq, iI_n, iI_in, iI_div, iI_mod, iI_shm, iI_and1, iI_and7, iI_and63, iI_shr3, iI_shr6, rd_I, ob, Option.some.injEq, exists_eq_left', exists_eq_left, true_and, and_true, fqI, fqJ, eq_self, true_or, or_true, bP_0, bP_0i, npP, bP_1i, bP_b, not_true_eq_false, not_false_eq_true, false_implies, true_implies, implies_true, Classical.not_not, and_self]
theorem gr_hNew {kd n : Nat} : Gr [] [] [] h (hNew h kd n) := ⟨fun _ q => absurd q List.not_mem_nil, Nat.le_succ _, fun a ha => ⟨up_n (by omega), up_n (by omega)⟩, fun a ha _ => up_n (by omega), fun a ha _ => up_n (by omega), fun a k ha _ => congrFun (up_n (by omega)) k⟩
theorem c_copyOf {a L : Nat} (o : ob h a 14) (l : aL h a = L) (hL : 0 < L ∧ L ≤ 64000) (rN : aN h < 601024) (rS : aS h + 2 * L ≤ 7293034) (K : ∀ h', Gr [] [] [] h h' → aN h' = aN h + 1 → aS h' = aS h + 2 * L → ob h' (aN h) 14 → aL h' (aN h) = 2 * L → (∀ j : Nat, j < L → aJ h' (aN h) j = aJ h a j) → postN h' (aN h)) : wp_J7_copyOf_c38d5 h a (iI (2 * L)) postN := by
  have e2 : (iI (2 * (L : Int))).toNatClampNeg = 2 * L := by rw [iI_n (by omega) (by omega)]; omega
  have oa : a ≠ aN h := by have := o.2; omega
  have g1 : Gr [] [] [] h (hNew h 14 (2 * L)) := gr_hNew
  have o1 := g1.ob o
  have l1 : aL (hNew h 14 (2 * L)) a = L := (g1.len o.2).trans l
  have on : ob (hNew h 14 (2 * L)) (aN h) 14 := ⟨up_s _ _ _, Nat.lt_succ_self _⟩
  have ln : aL (hNew h 14 (2 * L)) (aN h) = 2 * L := up_s _ _ _
  have mne : mn (nI (aL (hNew h 14 (2 * L)) a)) (iI (2 * L)) = iI L := by
    rw [l1, nI_iI]
    unfold mn
    rw [if_neg (by rw [iI_lt (by omega) (by omega) (by omega) (by omega)]; omega)]
  unfold wp_J7_copyOf_c38d5
  rw [e2, l]
  refine ⟨⟨Or.inr (Or.inr o.1), o.2⟩, fun _ => ⟨by rw [show (0 : Int32) = iI 0 from rfl, iI_lt (by omega) (by omega) (by omega) (by omega)]; omega, ⟨rN, rS⟩, fun h1 r eh er => ?_⟩, fun u => by rw [nI_iI, iI_eq (by omega) (by omega) (by omega) (by omega)] at u; omega⟩
  subst eh er
  rw [mne, l1, ln, iI_n (by omega) (by omega)]
  refine ⟨⟨Or.inr (Or.inr o1.1), o1.2⟩, o1, on, by decide, by decide, by rw [show (0 : Int32) = iI 0 from rfl, iI_lt (by omega) (by omega) (by omega) (by omega)]; omega, by show (0 : Nat) + _ ≤ _; omega, by show (0 : Nat) + _ ≤ _; omega, fun h3 e3 => ?_⟩
  have f3 : Fr [] [aN h] [] (hNew h 14 (2 * L)) h3 := by
    rw [e3]
    exact ⟨rfl, rfl, rfl, rfl, fun _ _ => rfl, fun b hb => up_n (by simpa using hb), fun _ _ => rfl⟩
  refine K h3 ⟨fun _ q => absurd q List.not_mem_nil, by rw [f3.1]; exact Nat.le_succ _, fun b hb => by rw [f3.2.2.1, f3.2.2.2.1]; exact g1.2.2.1 b hb, fun b hb _ => by rw [f3.2.2.2.2.1 b List.not_mem_nil]; exact g1.2.2.2.1 b hb List.not_mem_nil, fun b hb _ => by rw [f3.2.2.2.2.2.1 b (by simp; omega)]; exact g1.2.2.2.2.1 b hb List.not_mem_nil, fun b k hb _ => by rw [f3.aPe]; exact g1.2.2.2.2.2 b k hb List.not_mem_nil⟩ (by rw [f3.1]; rfl) (by rw [f3.2.1]; rfl) (f3.gr.ob on) (by rw [f3.2.2.2.1]; exact ln) fun j hj => ?_
  have e4 : aJ h3 (aN h) = va_cpy (aJ (hNew h 14 (2 * L)) a) (aJ (hNew h 14 (2 * L)) (aN h)) 0 0 (Int.toNat L) := by rw [e3]; exact up_s _ _ _
  rw [e4, g1.2.2.2.2.1 a o.2 List.not_mem_nil]
  unfold va_cpy
  rw [if_pos (by omega)]
  congr 1
  omega
theorem Gr.via {wi wj wi' wj' : List Nat} {wq wq' : List (Nat × Nat)} (G : Gr wi wj wq h0 h) (f : Gr wi' wj' wq' h h') (c1 : ∀ a, a < aN h0 → a ∈ wi' → a ∈ wi) (c2 : ∀ a, a < aN h0 → a ∈ wj' → a ∈ wj) (c3 : ∀ a k, a < aN h0 → (a, k) ∈ wq' → (a, k) ∈ wq) : Gr wi wj wq h0 h' :=
  ⟨G.1, Nat.le_trans G.2.1 f.2.1, fun a l => ⟨(f.2.2.1 a (Nat.lt_of_lt_of_le l G.2.1)).1.trans (G.2.2.1 a l).1, (f.2.2.1 a (Nat.lt_of_lt_of_le l G.2.1)).2.trans (G.2.2.1 a l).2⟩, fun a l q => (f.2.2.2.1 a (Nat.lt_of_lt_of_le l G.2.1) fun p => q (c1 a l p)).trans (G.2.2.2.1 a l q), fun a l q => (f.2.2.2.2.1 a (Nat.lt_of_lt_of_le l G.2.1) fun p => q (c2 a l p)).trans (G.2.2.2.2.1 a l q), fun a k l q => (f.2.2.2.2.2 a k (Nat.lt_of_lt_of_le l G.2.1) fun p => q (c3 a k l p)).trans (G.2.2.2.2.2 a k l q)⟩
theorem c_push40 (C : CQ h0 h qa0 qa t g X F B) (hL : t < aL h qa) (h64 : t < 64000) (hx : 0 ≤ x ∧ x < 262144) (hb : 0 ≤ b ∧ b < 64) (hf : 0 ≤ f ∧ f < 64000) (K : ∀ h', CQ h0 h' qa0 qa (t + 1) g (updT X t x) (updT F t f) (updT B t b) → Gr [74] [qa] [] h h' → (∀ j, j ≠ 3 → j ≠ 5 → rd h' 74 j = rd h 74 j) → postV h') : wb_X6_push_40 h 74 (iI x) (iI b) (iI f) postV := by
  obtain ⟨S, G, n0, p2, oq, ql, qd, nw, rN, rS, tt, tb, tl, gl, gg, qq, xb, ro⟩ := C
  have gb := rd_bd h 74 4
  rw [gl] at gb
  unfold wb_X6_push_40
  simp (disch := omega) only [CSh.o0 S, CSh.o1 S, CSh.o2 S, CSh.o3 S, CSh.o26 S, CSh.o27 S, CSh.o29 S, CSh.o30 S, CSh.o31 S, CSh.o56 S, CSh.o57 S, CSh.o58 S, CSh.o62 S, CSh.o66 S, CSh.o70 S, CSh.o74 S, CSh.o75 S, CSh.o77 S, CSh.o79 S, CSh.o80 S, CSh.o81 S, CSh.o82 S, CSh.o83 S, CSh.o84 S, CSh.o85 S, CSh.o86 S, CSh.o87 S, CSh.o88 S, CSh.o53 S, CSh.o54 S, CSh.o55 S, CSh.o59 S, CSh.o60 S, CSh.o61 S, CSh.o63 S, CSh.o64 S, CSh.o65 S, CSh.o67 S, CSh.o68 S, CSh.o69 S, CSh.o71 S, CSh.o72 S, CSh.o73 S, CSh.o89 S, CSh.o90 S, CSh.o91 S, CSh.l1 S, CSh.l3 S, CSh.l27 S, CSh.l29 S, CSh.l30 S, CSh.l56 S, CSh.l57 S, CSh.l58 S, CSh.l75 S, CSh.l77 S, CSh.l79 S, CSh.l81 S, CSh.l82 S, CSh.l83 S, CSh.l84 S, CSh.l85 S, CSh.l86 S, CSh.l87 S, CSh.l88 S, CSh.l54 S, CSh.l55 S, CSh.l60 S, CSh.l61 S, CSh.l64 S, CSh.l65 S, CSh.l68 S, CSh.l69 S, CSh.l72 S, CSh.l73 S, CSh.l90 S, CSh.l91 S, CSh.p0_0 S, CSh.p0_3 S, CSh.p0_4 S, CSh.p0_5 S, CSh.p0_6 S, CSh.p0_7 S, CSh.p0_8 S, CSh.p0_9 S, CSh.p0_10 S, CSh.p0_14 S, CSh.p2_0 S, CSh.p26_0 S, CSh.p26_13 S, CSh.p26_14 S, CSh.p31_1 S, CSh.p31_3 S, CSh.p31_4 S, CSh.p62_0 S, CSh.p66_0 S, CSh.p70_0 S, CSh.p74_0 S, CSh.p74_1 S, CSh.p74_6 S, CSh.p74_7 S, CSh.p74_10 S, CSh.p80_1 S, CSh.p80_2 S, CSh.p80_3 S, CSh.p80_4 S, CSh.p80_5 S, CSh.p80_6 S, CSh.p80_7 S, CSh.p80_8 S, CSh.p53_1 S, CSh.p53_2 S, CSh.p59_1 S, CSh.p59_2 S, CSh.p63_1 S, CSh.p63_2 S, CSh.p67_1 S, CSh.p67_2 S, CSh.p71_1 S, CSh.p71_2 S, CSh.p89_1 S, CSh.p89_2 S, fd0, fd1, fd2, fd3, fd4, fd5, fd6, fd7, fd8, fd9, fd10, fd11, fd12, fd13, fd14, fd15, fd16, fd17, fd18, fd19, fd20, fd21, fd22, fd23, fd24, fd25, fd26, fd27, fd28, fd29, fd30, fd31, fd32, fd33, fd34, fd35, fd36, fd37, fd38, fd39, fd40, fd41, fd42, fd43, fd44, fd45, fd46, fd47, fd48, fd49, fd50, fd51, fd52, p2, oq, tt, z_pack hf hb hx, -Int.reduceToNat, -Int32.reduceToNatClampNeg, il0, il1, il2, il3, il4, il5, il6, il7, il8, il9, il10, il11, il12, il13, il14, il15, il16, il17, il18, il19, il20, il21, il22, il23, il24, il25, il26, il27, il28, il29, il30, il31, il32, il35, il36, il38, il40, il42, il43, il44, il45, il46, il47, il48, il49, il50, il51, il52, il57, il59, il60, il63, il64, il75, il80, il95, il96, il97, il98, il99, il100, il120, il122, il123, il127, il128, il135, il167, il175, il225, il249, il250, il255, il256, il360, il370, il384, il600, il700, il740, il900, il940, il1024, il1600, il4800, il64000, il125000, il262143, il1000000000, iI_toInt, iI_add, iI_sub, iI_mul, iI_neg, iI_lt, iI_le, iI_eq, iI_n, iI_in, iI_div, iI_mod, iI_shm, iI_and1, iI_and7, iI_and63, iI_shr3, iI_shr6, rd_I, ob, Option.some.injEq, exists_eq_left', exists_eq_left, true_and, and_true, fqI, fqJ, eq_self, true_or, or_true, bP_0, bP_0i, npP, bP_1i, bP_b, not_true_eq_false, not_false_eq_true, false_implies, true_implies, implies_true, Classical.not_not, and_self]
  intro g1 w1
  have f1 : Fr [] [qa] [] h g1 := by rw [w1]; exact fr_hJ
  have S1 := S.gr f1.gr
  have e4 : rd g1 74 4 = g := by rw [f1.row (by simp)]; exact gl
  have e3 : rd g1 74 3 = t := by rw [f1.row (by simp)]; exact tt
  have e5 : rd g1 74 5 = rd h 74 5 := by rw [f1.row (by simp)]
  have jq : ∀ j : Nat, aJ g1 qa j = if j = t.toNat then Int64.ofInt (f * 16777216 + b * 262144 + x) else aJ h qa j := fun j => by rw [w1, aJ_hJ]
  have b5 := rd_bd h 74 5
  -- the count goes up
  have fin : ∀ g2, Fr [74] [] [] g1 g2 → (∀ j, j ≠ 5 → rd g2 74 j = rd g1 74 j) → rd g2 74 5 = (if x = g then t else rd h 74 5) → wb_X6_push_79 g2 74 postV := by
    intro g2 f2 r2 r5
    have S2 := S1.gr f2.gr
    have e3 : rd g2 74 3 = t := by rw [r2 3 (by omega)]; exact e3
    unfold wb_X6_push_79
    simp (disch := omega) only [CSh.o0 S2, CSh.o1 S2, CSh.o2 S2, CSh.o3 S2, CSh.o26 S2, CSh.o27 S2, CSh.o29 S2, CSh.o30 S2, CSh.o31 S2, CSh.o56 S2, CSh.o57 S2, CSh.o58 S2, CSh.o62 S2, CSh.o66 S2, CSh.o70 S2, CSh.o74 S2, CSh.o75 S2, CSh.o77 S2, CSh.o79 S2, CSh.o80 S2, CSh.o81 S2, CSh.o82 S2, CSh.o83 S2, CSh.o84 S2, CSh.o85 S2, CSh.o86 S2, CSh.o87 S2, CSh.o88 S2, CSh.o53 S2, CSh.o54 S2, CSh.o55 S2, CSh.o59 S2, CSh.o60 S2, CSh.o61 S2, CSh.o63 S2, CSh.o64 S2, CSh.o65 S2, CSh.o67 S2, CSh.o68 S2, CSh.o69 S2, CSh.o71 S2, CSh.o72 S2, CSh.o73 S2, CSh.o89 S2, CSh.o90 S2, CSh.o91 S2, CSh.l1 S2, CSh.l3 S2, CSh.l27 S2, CSh.l29 S2, CSh.l30 S2, CSh.l56 S2, CSh.l57 S2, CSh.l58 S2, CSh.l75 S2, CSh.l77 S2, CSh.l79 S2, CSh.l81 S2, CSh.l82 S2, CSh.l83 S2, CSh.l84 S2, CSh.l85 S2, CSh.l86 S2, CSh.l87 S2, CSh.l88 S2, CSh.l54 S2, CSh.l55 S2, CSh.l60 S2, CSh.l61 S2, CSh.l64 S2, CSh.l65 S2, CSh.l68 S2, CSh.l69 S2, CSh.l72 S2, CSh.l73 S2, CSh.l90 S2, CSh.l91 S2, CSh.p0_0 S2, CSh.p0_3 S2, CSh.p0_4 S2, CSh.p0_5 S2, CSh.p0_6 S2, CSh.p0_7 S2, CSh.p0_8 S2, CSh.p0_9 S2, CSh.p0_10 S2, CSh.p0_14 S2, CSh.p2_0 S2, CSh.p26_0 S2, CSh.p26_13 S2, CSh.p26_14 S2, CSh.p31_1 S2, CSh.p31_3 S2, CSh.p31_4 S2, CSh.p62_0 S2, CSh.p66_0 S2, CSh.p70_0 S2, CSh.p74_0 S2, CSh.p74_1 S2, CSh.p74_6 S2, CSh.p74_7 S2, CSh.p74_10 S2, CSh.p80_1 S2, CSh.p80_2 S2, CSh.p80_3 S2, CSh.p80_4 S2, CSh.p80_5 S2, CSh.p80_6 S2, CSh.p80_7 S2, CSh.p80_8 S2, CSh.p53_1 S2, CSh.p53_2 S2, CSh.p59_1 S2, CSh.p59_2 S2, CSh.p63_1 S2, CSh.p63_2 S2, CSh.p67_1 S2, CSh.p67_2 S2, CSh.p71_1 S2, CSh.p71_2 S2, CSh.p89_1 S2, CSh.p89_2 S2, fd0, fd1, fd2, fd3, fd4, fd5, fd6, fd7, fd8, fd9, fd10, fd11, fd12, fd13, fd14, fd15, fd16, fd17, fd18, fd19, fd20, fd21, fd22, fd23, fd24, fd25, fd26, fd27, fd28, fd29, fd30, fd31, fd32, fd33, fd34, fd35, fd36, fd37, fd38, fd39, fd40, fd41, fd42, fd43, fd44, fd45, fd46, fd47, fd48, fd49, fd50, fd51, fd52, e3, -Int.reduceToNat, -Int32.reduceToNatClampNeg, il0, il1, il2, il3, il4, il5, il6, il7, il8, il9, il10, il11, il12, il13, il14, il15, il16, il17, il18, il19, il20, il21, il22, il23, il24, il25, il26, il27, il28, il29, il30, il31, il32, il35, il36, il38, il40, il42, il43, il44, il45, il46, il47, il48, il49, il50, il51, il52, il57, il59, il60, il63, il64, il75, il80, il95, il96, il97, il98, il99, il100, il120, il122, il123, il127, il128, il135, il167, il175, il225, il249, il250, il255, il256, il360, il370, il384, il600, il700, il740, il900, il940, il1024, il1600, il4800, il64000, il125000, il262143, il1000000000, iI_toInt, iI_add, iI_sub, iI_mul, iI_neg, iI_lt, iI_le, iI_eq, iI_n, iI_in, iI_div, iI_mod, iI_shm, iI_and1, iI_and7, iI_and63, iI_shr3, iI_shr6, rd_I, ob, Option.some.injEq, exists_eq_left', exists_eq_left, true_and, and_true, fqI, fqJ, eq_self, true_or, or_true, bP_0, bP_0i, npP, bP_1i, bP_b, not_true_eq_false, not_false_eq_true, false_implies, true_implies, implies_true, Classical.not_not, and_self]
    intro g3 w3
    obtain ⟨f3, r3⟩ := wI (i := 3) (by omega) (by omega) (by omega) w3
    have F3 : Fr [74] [qa] [] h g3 := (f1.mono (by simp) (by simp) (by simp)).trans ((f2.mono (by simp) (by simp) (by simp)).trans (f3.mono (by simp) (by simp) (by simp)))
    have jq3 : aJ g3 qa = aJ g1 qa := by rw [f3.2.2.2.2.2.1 qa (by simp), f2.2.2.2.2.2.1 qa (by simp)]
    have g5 : rd g3 74 5 = (if x = g then t else rd h 74 5) := by rw [r3, updT_n (by omega)]; exact r5
    refine K g3 ⟨S2.gr f3.gr, G.via F3.gr (fun a _ q => by rw [List.mem_singleton.mp q]; unfold sWi; simp) (fun a l q => by
      rw [List.mem_singleton] at q
      subst q
      rcases nw with z | z
      · rw [z]; unfold sWj; simp
      · omega) (fun a k _ q => absurd q List.not_mem_nil), n0, by rw [F3.aPe]; exact p2, F3.gr.ob oq, by rw [F3.2.2.2.1]; exact ql, qd, nw, by rw [F3.1, F3.2.2.2.1]; exact rN, by rw [F3.2.1, F3.2.2.2.1]; exact rS, by rw [r3, updT_s], by omega, by rw [F3.2.2.2.1]; omega, by rw [r3, updT_n (by omega), r2 4 (by omega)]; exact e4, ?_, fun j j0 j1 => ?_, fun j j0 j1 => ?_, fun j hj => by rw [r3, updT_n (by omega), r2 j (by omega), f1.row (by simp)]; exact ro j hj⟩ F3.gr fun j j3 j5 => by rw [r3, updT_n j3, r2 j j5, f1.row (by simp)]
    · rw [g5]
      by_cases cx : x = g
      · rw [if_pos cx]
        exact Or.inr ⟨tb.1, by omega, by rw [updT_s, cx]⟩
      · rw [if_neg cx]
        rcases gg with ⟨u1, u2⟩ | ⟨u1, u2, u3⟩
        · refine Or.inl ⟨u1, fun j j0 j1 => ?_⟩
          by_cases cj : j = t
          · rw [cj, updT_s]; exact cx
          · rw [updT_n cj]; exact u2 j j0 (by omega)
        · exact Or.inr ⟨u1, by omega, by rw [updT_n (by omega)]; exact u3⟩
    · rw [jq3, jq]
      by_cases cj : j = t
      · rw [if_pos (by omega), cj, updT_s, updT_s, updT_s]
      · rw [if_neg (by omega), updT_n cj, updT_n cj, updT_n cj]; exact qq j j0 (by omega)
    · by_cases cj : j = t
      · rw [cj, updT_s, updT_s, updT_s]; exact ⟨hx, hb, hf⟩
      · rw [updT_n cj, updT_n cj, updT_n cj]; exact xb j j0 (by omega)
  simp (disch := omega) only [CSh.o0 S1, CSh.o1 S1, CSh.o2 S1, CSh.o3 S1, CSh.o26 S1, CSh.o27 S1, CSh.o29 S1, CSh.o30 S1, CSh.o31 S1, CSh.o56 S1, CSh.o57 S1, CSh.o58 S1, CSh.o62 S1, CSh.o66 S1, CSh.o70 S1, CSh.o74 S1, CSh.o75 S1, CSh.o77 S1, CSh.o79 S1, CSh.o80 S1, CSh.o81 S1, CSh.o82 S1, CSh.o83 S1, CSh.o84 S1, CSh.o85 S1, CSh.o86 S1, CSh.o87 S1, CSh.o88 S1, CSh.o53 S1, CSh.o54 S1, CSh.o55 S1, CSh.o59 S1, CSh.o60 S1, CSh.o61 S1, CSh.o63 S1, CSh.o64 S1, CSh.o65 S1, CSh.o67 S1, CSh.o68 S1, CSh.o69 S1, CSh.o71 S1, CSh.o72 S1, CSh.o73 S1, CSh.o89 S1, CSh.o90 S1, CSh.o91 S1, CSh.l1 S1, CSh.l3 S1, CSh.l27 S1, CSh.l29 S1, CSh.l30 S1, CSh.l56 S1, CSh.l57 S1, CSh.l58 S1, CSh.l75 S1, CSh.l77 S1, CSh.l79 S1, CSh.l81 S1, CSh.l82 S1, CSh.l83 S1, CSh.l84 S1, CSh.l85 S1, CSh.l86 S1, CSh.l87 S1, CSh.l88 S1, CSh.l54 S1, CSh.l55 S1, CSh.l60 S1, CSh.l61 S1, CSh.l64 S1, CSh.l65 S1, CSh.l68 S1, CSh.l69 S1, CSh.l72 S1, CSh.l73 S1, CSh.l90 S1, CSh.l91 S1, CSh.p0_0 S1, CSh.p0_3 S1, CSh.p0_4 S1, CSh.p0_5 S1, CSh.p0_6 S1, CSh.p0_7 S1, CSh.p0_8 S1, CSh.p0_9 S1, CSh.p0_10 S1, CSh.p0_14 S1, CSh.p2_0 S1, CSh.p26_0 S1, CSh.p26_13 S1, CSh.p26_14 S1, CSh.p31_1 S1, CSh.p31_3 S1, CSh.p31_4 S1, CSh.p62_0 S1, CSh.p66_0 S1, CSh.p70_0 S1, CSh.p74_0 S1, CSh.p74_1 S1, CSh.p74_6 S1, CSh.p74_7 S1, CSh.p74_10 S1, CSh.p80_1 S1, CSh.p80_2 S1, CSh.p80_3 S1, CSh.p80_4 S1, CSh.p80_5 S1, CSh.p80_6 S1, CSh.p80_7 S1, CSh.p80_8 S1, CSh.p53_1 S1, CSh.p53_2 S1, CSh.p59_1 S1, CSh.p59_2 S1, CSh.p63_1 S1, CSh.p63_2 S1, CSh.p67_1 S1, CSh.p67_2 S1, CSh.p71_1 S1, CSh.p71_2 S1, CSh.p89_1 S1, CSh.p89_2 S1, fd0, fd1, fd2, fd3, fd4, fd5, fd6, fd7, fd8, fd9, fd10, fd11, fd12, fd13, fd14, fd15, fd16, fd17, fd18, fd19, fd20, fd21, fd22, fd23, fd24, fd25, fd26, fd27, fd28, fd29, fd30, fd31, fd32, fd33, fd34, fd35, fd36, fd37, fd38, fd39, fd40, fd41, fd42, fd43, fd44, fd45, fd46, fd47, fd48, fd49, fd50, fd51, fd52, e3, e4, -Int.reduceToNat, -Int32.reduceToNatClampNeg, il0, il1, il2, il3, il4, il5, il6, il7, il8, il9, il10, il11, il12, il13, il14, il15, il16, il17, il18, il19, il20, il21, il22, il23, il24, il25, il26, il27, il28, il29, il30, il31, il32, il35, il36, il38, il40, il42, il43, il44, il45, il46, il47, il48, il49, il50, il51, il52, il57, il59, il60, il63, il64, il75, il80, il95, il96, il97, il98, il99, il100, il120, il122, il123, il127, il128, il135, il167, il175, il225, il249, il250, il255, il256, il360, il370, il384, il600, il700, il740, il900, il940, il1024, il1600, il4800, il64000, il125000, il262143, il1000000000, iI_toInt, iI_add, iI_sub, iI_mul, iI_neg, iI_lt, iI_le, iI_eq, iI_n, iI_in, iI_div, iI_mod, iI_shm, iI_and1, iI_and7, iI_and63, iI_shr3, iI_shr6, rd_I, ob, Option.some.injEq, exists_eq_left', exists_eq_left, true_and, and_true, fqI, fqJ, eq_self, true_or, or_true, bP_0, bP_0i, npP, bP_1i, bP_b, not_true_eq_false, not_false_eq_true, false_implies, true_implies, implies_true, Classical.not_not, and_self]
  refine ⟨fun nx => fin g1 ((Fr.refl g1).mono (by simp) (by simp) (by simp)) (fun _ _ => rfl) (by rw [if_neg nx]; exact e5), fun ex g2 w2 => ?_⟩
  obtain ⟨f2, r2⟩ := wI (i := 5) (by omega) (by omega) (by omega) w2
  exact fin g2 f2 (fun j hj => by rw [r2, updT_n hj]) (by rw [r2, updT_s, if_pos ex])
theorem c_push (C : CQ h0 h qa0 qa t g X F B) (rm : aN h0 ≤ 400000 ∧ aS h0 ≤ 4000000) (h64 : t < 64000) (hx : 0 ≤ x ∧ x < 262144) (hb : 0 ≤ b ∧ b < 64) (hf : 0 ≤ f ∧ f < 64000) (K : ∀ h' qa', CQ h0 h' qa0 qa' (t + 1) g (updT X t x) (updT F t f) (updT B t b) → Gr [74] [qa] [(74, 2)] h h' → (∀ j, j ≠ 3 → j ≠ 5 → rd h' 74 j = rd h 74 j) → postV h') : wp_X6_push h 74 (iI x) (iI b) (iI f) postV := by
  have C0 := C
  obtain ⟨S, G, n0, p2, oq, ql, qd, nw, rN, rS, tt, tb, tl, gl, gg, qq, xb, ro⟩ := C
  have dq : ∀ p, p ∈ [((74 : Nat), (2 : Nat))] → p ∈ DynP := by decide
  have l74 : 74 < aN h := S.o74.2
  unfold wp_X6_push
  simp (disch := omega) only [CSh.o0 S, CSh.o1 S, CSh.o2 S, CSh.o3 S, CSh.o26 S, CSh.o27 S, CSh.o29 S, CSh.o30 S, CSh.o31 S, CSh.o56 S, CSh.o57 S, CSh.o58 S, CSh.o62 S, CSh.o66 S, CSh.o70 S, CSh.o74 S, CSh.o75 S, CSh.o77 S, CSh.o79 S, CSh.o80 S, CSh.o81 S, CSh.o82 S, CSh.o83 S, CSh.o84 S, CSh.o85 S, CSh.o86 S, CSh.o87 S, CSh.o88 S, CSh.o53 S, CSh.o54 S, CSh.o55 S, CSh.o59 S, CSh.o60 S, CSh.o61 S, CSh.o63 S, CSh.o64 S, CSh.o65 S, CSh.o67 S, CSh.o68 S, CSh.o69 S, CSh.o71 S, CSh.o72 S, CSh.o73 S, CSh.o89 S, CSh.o90 S, CSh.o91 S, CSh.l1 S, CSh.l3 S, CSh.l27 S, CSh.l29 S, CSh.l30 S, CSh.l56 S, CSh.l57 S, CSh.l58 S, CSh.l75 S, CSh.l77 S, CSh.l79 S, CSh.l81 S, CSh.l82 S, CSh.l83 S, CSh.l84 S, CSh.l85 S, CSh.l86 S, CSh.l87 S, CSh.l88 S, CSh.l54 S, CSh.l55 S, CSh.l60 S, CSh.l61 S, CSh.l64 S, CSh.l65 S, CSh.l68 S, CSh.l69 S, CSh.l72 S, CSh.l73 S, CSh.l90 S, CSh.l91 S, CSh.p0_0 S, CSh.p0_3 S, CSh.p0_4 S, CSh.p0_5 S, CSh.p0_6 S, CSh.p0_7 S, CSh.p0_8 S, CSh.p0_9 S, CSh.p0_10 S, CSh.p0_14 S, CSh.p2_0 S, CSh.p26_0 S, CSh.p26_13 S, CSh.p26_14 S, CSh.p31_1 S, CSh.p31_3 S, CSh.p31_4 S, CSh.p62_0 S, CSh.p66_0 S, CSh.p70_0 S, CSh.p74_0 S, CSh.p74_1 S, CSh.p74_6 S, CSh.p74_7 S, CSh.p74_10 S, CSh.p80_1 S, CSh.p80_2 S, CSh.p80_3 S, CSh.p80_4 S, CSh.p80_5 S, CSh.p80_6 S, CSh.p80_7 S, CSh.p80_8 S, CSh.p53_1 S, CSh.p53_2 S, CSh.p59_1 S, CSh.p59_2 S, CSh.p63_1 S, CSh.p63_2 S, CSh.p67_1 S, CSh.p67_2 S, CSh.p71_1 S, CSh.p71_2 S, CSh.p89_1 S, CSh.p89_2 S, fd0, fd1, fd2, fd3, fd4, fd5, fd6, fd7, fd8, fd9, fd10, fd11, fd12, fd13, fd14, fd15, fd16, fd17, fd18, fd19, fd20, fd21, fd22, fd23, fd24, fd25, fd26, fd27, fd28, fd29, fd30, fd31, fd32, fd33, fd34, fd35, fd36, fd37, fd38, fd39, fd40, fd41, fd42, fd43, fd44, fd45, fd46, fd47, fd48, fd49, fd50, fd51, fd52, p2, tt, nI_iI, -Int.reduceToNat, -Int32.reduceToNatClampNeg, il0, il1, il2, il3, il4, il5, il6, il7, il8, il9, il10, il11, il12, il13, il14, il15, il16, il17, il18, il19, il20, il21, il22, il23, il24, il25, il26, il27, il28, il29, il30, il31, il32, il35, il36, il38, il40, il42, il43, il44, il45, il46, il47, il48, il49, il50, il51, il52, il57, il59, il60, il63, il64, il75, il80, il95, il96, il97, il98, il99, il100, il120, il122, il123, il127, il128, il135, il167, il175, il225, il249, il250, il255, il256, il360, il370, il384, il600, il700, il740, il900, il940, il1024, il1600, il4800, il64000, il125000, il262143, il1000000000, iI_toInt, iI_add, iI_sub, iI_mul, iI_neg, iI_lt, iI_le, iI_eq, iI_n, iI_in, iI_div, iI_mod, iI_shm, iI_and1, iI_and7, iI_and63, iI_shr3, iI_shr6, rd_I, ob, Option.some.injEq, exists_eq_left', exists_eq_left, true_and, and_true, fqI, fqJ, eq_self, true_or, or_true, bP_0, bP_0i, npP, bP_1i, bP_b, not_true_eq_false, not_false_eq_true, false_implies, true_implies, implies_true, Classical.not_not, and_self]
  refine ⟨fun _ => ⟨⟨Or.inr (Or.inr oq.1), oq.2⟩, fun cl => ?_, fun cl => ⟨⟨Or.inr (Or.inr oq.1), oq.2⟩, ?_⟩⟩, fun u => absurd h64 u⟩
  · exact c_push40 C0 cl h64 hx hb hf fun h' C' G' r' => K h' qa C' (G'.mono (fun _ q => q) (fun _ q => q) (by simp) dq) r'
  · have eL : (aL h qa : Int) = t := by omega
    refine c_copyOf (L := aL h qa) oq rfl (by omega) (by omega) (by omega) fun h1 G1 n1 s1 on ln jn => ?_
    have S1 := S.gr G1
    refine ⟨S1.o74, fun h2 e2 => ?_⟩
    have G2 : Gr [] [] [(74, 2)] h1 h2 := by rw [e2]; exact gr_hP1 (k := 2) (by decide)
    have r2 : ∀ a, rd h2 a = rd h1 a := fun a => by rw [e2]; rfl
    have j2 : ∀ a, aJ h2 a = aJ h1 a := fun a => by rw [e2]; rfl
    have r1 : rd h2 74 = rd h 74 := by rw [r2]; exact G1.row l74 List.not_mem_nil
    have GH : Gr [] [] [(74, 2)] h h2 := (G1.mono (by simp) (by simp) (by simp) dq).trans G2
    have n2 : aN h2 = aN h + 1 := by rw [e2]; exact n1
    have s2 : aS h2 = aS h + 2 * aL h qa := by rw [e2]; exact s1
    have l2 : aL h2 (aN h) = 2 * aL h qa := by rw [e2]; exact ln
    have C2 : CQ h0 h2 qa0 (aN h) t g X F B := ⟨S1.gr G2, G.via GH (fun a _ q => absurd q List.not_mem_nil) (fun a _ q => absurd q List.not_mem_nil) (fun a k _ q => by rw [List.mem_singleton.mp q]; unfold sWq; simp), n0, by rw [e2, aP_hP, if_pos rfl], G2.ob on, by rw [l2]; omega, Or.inr (by have := G.2.1; omega), Or.inr (G.2.1), by rw [n2, l2]; omega, by rw [s2, l2]; omega, by rw [r1]; exact tt, tb, by rw [l2]; omega, by rw [r1]; exact gl, by rw [r1]; exact gg, fun j j0 j1 => by rw [j2, jn _ (by omega)]; exact qq j j0 j1, xb, fun j hj => by rw [r1]; exact ro j hj⟩
    refine c_push40 C2 (by rw [l2]; omega) h64 hx hb hf fun h' C' G' r' => K h' (aN h) C' ((GH.mono (wi' := [74]) (wj' := [qa]) (by simp) (by simp) (fun _ q => q) dq).via G' (fun _ _ q => q) (fun a l q => by rw [List.mem_singleton] at q; omega) (fun a k _ q => absurd q List.not_mem_nil)) (fun j j3 j5 => by rw [r' j j3 j5, r1])
/-- the search begins: one TOWN, nothing seen -/
theorem c_start {st : Int} (S : CSh h) (n0 : 119 ≤ aN h0) (rm : aN h0 ≤ 400000 ∧ aS h0 ≤ 4000000) (G : Gr sWi (sWj qa) sWq h0 h) (eN : aN h = aN h0) (eS : aS h = aS h0) (p2 : aP h 74 2 = some qa) (oq : ob h qa 14) (ql : 256 ≤ aL h qa ∧ aL h qa ≤ 128000) (lq : aL h qa = aL h0 qa) (qd : qa = 76 ∨ 119 ≤ qa) (r74 : ∀ j, 5 < j → rd h 74 j = rd h0 74 j) (hx : 0 ≤ st ∧ st < 262144) (hg : -2147483648 ≤ g ∧ g < 2147483648) (K : ∀ h' qa', CQ h0 h' qa qa' 1 g (fun _ => st) (fun _ => 0) (fun _ => 0) → Gr [74] [75, qa] [(74, 2)] h h' → (∀ j : Nat, j < 1600 → aJ h' 75 j = 0) → (∀ j, j < 3 ∨ 5 < j → rd h' 74 j = rd h 74 j) → postV h') : wp_X6_begin h 74 (iI st) (iI g) postV := by
  have dq : ∀ p, p ∈ [((74 : Nat), (2 : Nat))] → p ∈ DynP := by decide
  unfold wp_X6_begin
  simp (disch := omega) only [CSh.o0 S, CSh.o1 S, CSh.o2 S, CSh.o3 S, CSh.o26 S, CSh.o27 S, CSh.o29 S, CSh.o30 S, CSh.o31 S, CSh.o56 S, CSh.o57 S, CSh.o58 S, CSh.o62 S, CSh.o66 S, CSh.o70 S, CSh.o74 S, CSh.o75 S, CSh.o77 S, CSh.o79 S, CSh.o80 S, CSh.o81 S, CSh.o82 S, CSh.o83 S, CSh.o84 S, CSh.o85 S, CSh.o86 S, CSh.o87 S, CSh.o88 S, CSh.o53 S, CSh.o54 S, CSh.o55 S, CSh.o59 S, CSh.o60 S, CSh.o61 S, CSh.o63 S, CSh.o64 S, CSh.o65 S, CSh.o67 S, CSh.o68 S, CSh.o69 S, CSh.o71 S, CSh.o72 S, CSh.o73 S, CSh.o89 S, CSh.o90 S, CSh.o91 S, CSh.l1 S, CSh.l3 S, CSh.l27 S, CSh.l29 S, CSh.l30 S, CSh.l56 S, CSh.l57 S, CSh.l58 S, CSh.l75 S, CSh.l77 S, CSh.l79 S, CSh.l81 S, CSh.l82 S, CSh.l83 S, CSh.l84 S, CSh.l85 S, CSh.l86 S, CSh.l87 S, CSh.l88 S, CSh.l54 S, CSh.l55 S, CSh.l60 S, CSh.l61 S, CSh.l64 S, CSh.l65 S, CSh.l68 S, CSh.l69 S, CSh.l72 S, CSh.l73 S, CSh.l90 S, CSh.l91 S, CSh.p0_0 S, CSh.p0_3 S, CSh.p0_4 S, CSh.p0_5 S, CSh.p0_6 S, CSh.p0_7 S, CSh.p0_8 S, CSh.p0_9 S, CSh.p0_10 S, CSh.p0_14 S, CSh.p2_0 S, CSh.p26_0 S, CSh.p26_13 S, CSh.p26_14 S, CSh.p31_1 S, CSh.p31_3 S, CSh.p31_4 S, CSh.p62_0 S, CSh.p66_0 S, CSh.p70_0 S, CSh.p74_0 S, CSh.p74_1 S, CSh.p74_6 S, CSh.p74_7 S, CSh.p74_10 S, CSh.p80_1 S, CSh.p80_2 S, CSh.p80_3 S, CSh.p80_4 S, CSh.p80_5 S, CSh.p80_6 S, CSh.p80_7 S, CSh.p80_8 S, CSh.p53_1 S, CSh.p53_2 S, CSh.p59_1 S, CSh.p59_2 S, CSh.p63_1 S, CSh.p63_2 S, CSh.p67_1 S, CSh.p67_2 S, CSh.p71_1 S, CSh.p71_2 S, CSh.p89_1 S, CSh.p89_2 S, -Int.reduceToNat, -Int32.reduceToNatClampNeg, il0, il1, il2, il3, il4, il5, il6, il7, il8, il9, il10, il11, il12, il13, il14, il15, il16, il17, il18, il19, il20, il21, il22, il23, il24, il25, il26, il27, il28, il29, il30, il31, il32, il35, il36, il38, il40, il42, il43, il44, il45, il46, il47, il48, il49, il50, il51, il52, il57, il59, il60, il63, il64, il75, il80, il95, il96, il97, il98, il99, il100, il120, il122, il123, il127, il128, il135, il167, il175, il225, il249, il250, il255, il256, il360, il370, il384, il600, il700, il740, il900, il940, il1024, il1600, il4800, il64000, il125000, il262143, il1000000000, ob, Option.some.injEq, exists_eq_left', exists_eq_left, true_and, and_true, fqI, fqJ, eq_self, true_or, or_true, bP_0, bP_0i, npP, bP_1i, bP_b, not_true_eq_false, not_false_eq_true, false_implies, true_implies, implies_true, Classical.not_not, and_self]
  refine c_fillJ S.o75 S.l75 (by omega) fun g1 f1 z1 => ?_
  have S1 := S.gr f1.gr
  simp (disch := omega) only [CSh.o0 S1, CSh.o1 S1, CSh.o2 S1, CSh.o3 S1, CSh.o26 S1, CSh.o27 S1, CSh.o29 S1, CSh.o30 S1, CSh.o31 S1, CSh.o56 S1, CSh.o57 S1, CSh.o58 S1, CSh.o62 S1, CSh.o66 S1, CSh.o70 S1, CSh.o74 S1, CSh.o75 S1, CSh.o77 S1, CSh.o79 S1, CSh.o80 S1, CSh.o81 S1, CSh.o82 S1, CSh.o83 S1, CSh.o84 S1, CSh.o85 S1, CSh.o86 S1, CSh.o87 S1, CSh.o88 S1, CSh.o53 S1, CSh.o54 S1, CSh.o55 S1, CSh.o59 S1, CSh.o60 S1, CSh.o61 S1, CSh.o63 S1, CSh.o64 S1, CSh.o65 S1, CSh.o67 S1, CSh.o68 S1, CSh.o69 S1, CSh.o71 S1, CSh.o72 S1, CSh.o73 S1, CSh.o89 S1, CSh.o90 S1, CSh.o91 S1, CSh.l1 S1, CSh.l3 S1, CSh.l27 S1, CSh.l29 S1, CSh.l30 S1, CSh.l56 S1, CSh.l57 S1, CSh.l58 S1, CSh.l75 S1, CSh.l77 S1, CSh.l79 S1, CSh.l81 S1, CSh.l82 S1, CSh.l83 S1, CSh.l84 S1, CSh.l85 S1, CSh.l86 S1, CSh.l87 S1, CSh.l88 S1, CSh.l54 S1, CSh.l55 S1, CSh.l60 S1, CSh.l61 S1, CSh.l64 S1, CSh.l65 S1, CSh.l68 S1, CSh.l69 S1, CSh.l72 S1, CSh.l73 S1, CSh.l90 S1, CSh.l91 S1, CSh.p0_0 S1, CSh.p0_3 S1, CSh.p0_4 S1, CSh.p0_5 S1, CSh.p0_6 S1, CSh.p0_7 S1, CSh.p0_8 S1, CSh.p0_9 S1, CSh.p0_10 S1, CSh.p0_14 S1, CSh.p2_0 S1, CSh.p26_0 S1, CSh.p26_13 S1, CSh.p26_14 S1, CSh.p31_1 S1, CSh.p31_3 S1, CSh.p31_4 S1, CSh.p62_0 S1, CSh.p66_0 S1, CSh.p70_0 S1, CSh.p74_0 S1, CSh.p74_1 S1, CSh.p74_6 S1, CSh.p74_7 S1, CSh.p74_10 S1, CSh.p80_1 S1, CSh.p80_2 S1, CSh.p80_3 S1, CSh.p80_4 S1, CSh.p80_5 S1, CSh.p80_6 S1, CSh.p80_7 S1, CSh.p80_8 S1, CSh.p53_1 S1, CSh.p53_2 S1, CSh.p59_1 S1, CSh.p59_2 S1, CSh.p63_1 S1, CSh.p63_2 S1, CSh.p67_1 S1, CSh.p67_2 S1, CSh.p71_1 S1, CSh.p71_2 S1, CSh.p89_1 S1, CSh.p89_2 S1, -Int.reduceToNat, -Int32.reduceToNatClampNeg, il0, il1, il2, il3, il4, il5, il6, il7, il8, il9, il10, il11, il12, il13, il14, il15, il16, il17, il18, il19, il20, il21, il22, il23, il24, il25, il26, il27, il28, il29, il30, il31, il32, il35, il36, il38, il40, il42, il43, il44, il45, il46, il47, il48, il49, il50, il51, il52, il57, il59, il60, il63, il64, il75, il80, il95, il96, il97, il98, il99, il100, il120, il122, il123, il127, il128, il135, il167, il175, il225, il249, il250, il255, il256, il360, il370, il384, il600, il700, il740, il900, il940, il1024, il1600, il4800, il64000, il125000, il262143, il1000000000, iI_toInt, iI_add, iI_sub, iI_mul, iI_neg, iI_lt, iI_le, iI_eq, iI_n, iI_in, iI_div, iI_mod, iI_shm, iI_and1, iI_and7, iI_and63, iI_shr3, iI_shr6, rd_I, ob, Option.some.injEq, exists_eq_left', exists_eq_left, true_and, and_true, fqI, fqJ, eq_self, true_or, or_true, bP_0, bP_0i, npP, bP_1i, bP_b, not_true_eq_false, not_false_eq_true, false_implies, true_implies, implies_true, Classical.not_not, and_self]
  intro g2 w2
  obtain ⟨f2, r2⟩ := wI (i := 3) (by omega) (by omega) (by omega) w2
  have S2 := S1.gr f2.gr
  refine ⟨S2.o74, fun g3 w3 => ?_⟩
  obtain ⟨f3, r3⟩ := wI (i := 4) (by omega) hg.1 hg.2 w3
  have S3 := S2.gr f3.gr
  refine ⟨S3.o74, fun g4 w4 => ?_⟩
  obtain ⟨f4, r4⟩ := wI (i := 5) (by omega) (by omega) (by omega) w4
  have S4 := S3.gr f4.gr
  have F4 : Fr [74] [75] [] h g4 := (f1.mono (by simp) (by simp) (by simp)).trans ((f2.mono (by simp) (by simp) (by simp)).trans ((f3.mono (by simp) (by simp) (by simp)).trans (f4.mono (by simp) (by simp) (by simp))))
  have q7 : qa ≠ 75 := by omega
  have C4 : CQ h0 g4 qa qa 0 g (fun _ => st) (fun _ => 0) (fun _ => 0) := ⟨S4, G.via F4.gr (fun a _ q => by rw [List.mem_singleton.mp q]; unfold sWi; simp) (fun a _ q => by rw [List.mem_singleton.mp q]; unfold sWj; simp) (fun a k _ q => absurd q List.not_mem_nil), n0, by rw [F4.aPe]; exact p2, F4.gr.ob oq, by rw [F4.2.2.2.1]; exact ql, qd, Or.inl rfl, by rw [F4.1, F4.2.2.2.1]; omega, by rw [F4.2.1, F4.2.2.2.1]; omega, by rw [r4, updT_n (by omega), r3, updT_n (by omega), r2, updT_s], by omega, by rw [F4.2.2.2.1]; omega, by rw [r4, updT_n (by omega), r3, updT_s], Or.inl ⟨by rw [r4, updT_s], fun j j0 j1 => by omega⟩, fun j j0 j1 => by omega, fun j j0 j1 => by omega, fun j hj => by rw [r4, updT_n (by omega), r3, updT_n (by omega), r2, updT_n (by omega), f1.row (by simp)]; exact r74 j hj⟩
  refine ⟨S4.o74, c_push (b := 0) (f := 0) C4 rm (by omega) hx (by omega) (by omega) fun h' qa' C' G' r' => ?_⟩
  have ec : ∀ v : Int, updT (fun _ : Int => v) 0 v = fun _ => v := fun v => by funext j; unfold updT; split <;> rfl
  rw [ec st, ec 0] at C'
  refine K h' qa' C' ((F4.gr.mono (wq' := [(74, 2)]) (by simp) (by simp) (by simp) dq).via (wi := [74]) (wj := [75, qa]) G' (fun _ _ q => q) (fun a _ q => by rw [List.mem_singleton.mp q]; simp) (fun _ _ _ q => q)) (fun j hj => ?_) fun j hj => ?_
  · rw [G'.jow (S4.o75).2 (by simp; omega), f4.2.2.2.2.2.1 75 (by simp), f3.2.2.2.2.2.1 75 (by simp), f2.2.2.2.2.2.1 75 (by simp)]; exact z1 j hj
  · rw [r' j (by omega) (by omega), r4, updT_n (by omega), r3, updT_n (by omega), r2, updT_n (by omega), f1.row (by simp)]
end CQS
