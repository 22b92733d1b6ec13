/-! longs as sets of cells -/
def zb (z : Int64) (k : Int) : Prop := z.toBitVec.getLsbD k.toNat = true
theorem zb_and (a b : Int64) (k : Int) : zb (a &&& b) k ↔ zb a k ∧ zb b k := by
  unfold zb
  rw [Int64.toBitVec_and, BitVec.getLsbD_and]
  simp
theorem zb_or (a b : Int64) (k : Int) : zb (a ||| b) k ↔ zb a k ∨ zb b k := by
  unfold zb
  rw [Int64.toBitVec_or, BitVec.getLsbD_or]
  simp
theorem zb_not (a : Int64) {k : Int} (h1 : 0 ≤ k) (h2 : k < 64) : zb (a ^^^ (-1 : Int64)) k ↔ ¬ zb a k := by
  unfold zb
  rw [Int64.toBitVec_xor, BitVec.getLsbD_xor]
  have e : (-1 : Int64).toBitVec = BitVec.allOnes 64 := by decide +kernel
  rw [e, BitVec.getLsbD_allOnes]
  simp [show k.toNat < 64 by omega]
theorem zb_0 (k : Int) : ¬ zb 0 k := by
  unfold zb
  show ¬ (BitVec.getLsbD (0#64) k.toNat = true)
  simp
theorem zb_ext {a b : Int64} (h : ∀ k, 0 ≤ k → k < 64 → (zb a k ↔ zb b k)) : a = b := by
  apply Int64.toBitVec_inj.mp
  apply BitVec.eq_of_getLsbD_eq
  intro i hi
  have := h i (by omega) (by omega)
  unfold zb at this
  rw [Int.toNat_natCast] at this
  exact Bool.eq_iff_iff.mpr this
theorem z_0 (a : Int64) : a = 0 ↔ ∀ k, 0 ≤ k → k < 64 → ¬ zb a k :=
  ⟨fun e k _ _ => by rw [e]; exact zb_0 k, fun h => zb_ext fun k h1 h2 => ⟨fun q => absurd q (h k h1 h2), fun q => absurd q (zb_0 k)⟩⟩
theorem z_and0 (a b : Int64) : a &&& b = 0 ↔ ∀ k, 0 ≤ k → k < 64 → ¬ (zb a k ∧ zb b k) := by
  rw [z_0]
  exact forall_congr' fun k => by rw [zb_and]
theorem lgc (a : Int64) : (lg_cmp a 0 = iI 0) = (a = 0) := by
  unfold lg_cmp
  by_cases c : a > 0
  · rw [if_pos c]
    refine propext ⟨fun q => absurd q (by decide), fun q => ?_⟩
    subst q
    exact absurd c (by decide)
  · rw [if_neg c]
    by_cases e : a = 0
    · rw [if_pos e]
      exact propext ⟨fun _ => e, fun _ => rfl⟩
    · rw [if_neg e]
      exact propext ⟨fun q => absurd q (by decide), fun q => absurd q e⟩
theorem sl64 : ∀ k : Nat, k < 64 → (Int32.ofNat k).toInt64 &&& 63 = Int64.ofNat k := by decide +kernel
theorem sr64 : ∀ k : Nat, k < 64 → ((Int32.ofNat k).toInt64.toUInt64 &&& Int64.toUInt64 63).toBitVec.toNat % 64 = k := by decide +kernel
theorem zb_shl (z : Int64) {k j : Int} (h1 : 0 ≤ k) (h2 : k < 64) (h3 : 0 ≤ j) (h4 : j < 64) : zb (z <<< ((iI k).toInt64 &&& 63)) j ↔ k ≤ j ∧ zb z (j - k) := by
  unfold zb
  rw [iI_nat h1, sl64 _ (by omega)]
  show ((z.toBitVec <<< ((BitVec.ofNat 64 k.toNat).smod 64)).getLsbD j.toNat = true) ↔ _
  rw [BitVec.shiftLeft_eq', sm64 _ (by omega), BitVec.getLsbD_shiftLeft]
  rw [show (j - k).toNat = j.toNat - k.toNat by omega]
  simp
  intro _
  omega
theorem zb_shr (z : Int64) {k j : Int} (h1 : 0 ≤ k) (h2 : k < 64) (h3 : 0 ≤ j) : zb ((z.toUInt64 >>> ((iI k).toInt64.toUInt64 &&& Int64.toUInt64 63)).toInt64) j ↔ zb z (j + k) := by
  unfold zb
  rw [iI_nat h1]
  show ((z.toBitVec >>> (((Int32.ofNat k.toNat).toInt64.toUInt64 &&& Int64.toUInt64 63).toBitVec % 64)).getLsbD j.toNat = true) ↔ _
  rw [BitVec.ushiftRight_eq', BitVec.toNat_umod]
  show ((z.toBitVec >>> (((Int32.ofNat k.toNat).toInt64.toUInt64 &&& Int64.toUInt64 63).toBitVec.toNat % 64)).getLsbD j.toNat = true) ↔ _
  rw [sr64 _ (by omega), BitVec.getLsbD_ushiftRight, show (j + k).toNat = k.toNat + j.toNat by omega]
theorem zb_1 {k : Int} (h1 : 0 ≤ k) (h2 : k < 64) : zb 1 k ↔ k = 0 := by
  unfold zb
  have : ∀ k : Nat, k < 64 → ((1 : Int64).toBitVec.getLsbD k = true ↔ k = 0) := by decide +kernel
  rw [this _ (by omega)]
  omega
theorem z_bit (z : Int64) {k : Int} (h1 : 0 ≤ k) (h2 : k < 64) : ((z.toUInt64 >>> ((iI k).toInt64.toUInt64 &&& Int64.toUInt64 63)).toInt64 &&& (1 : Int64) = 0) ↔ ¬ zb z k := by
  rw [z_and0]
  constructor
  · intro q hk
    refine q 0 (by omega) (by omega) ⟨?_, (zb_1 (by omega) (by omega)).mpr rfl⟩
    rw [zb_shr z h1 h2 (by omega), Int.zero_add]
    exact hk
  · rintro q j j1 j2 ⟨a, b⟩
    rw [zb_1 j1 j2] at b
    subst b
    rw [zb_shr z h1 h2 (by omega), Int.zero_add] at a
    exact q a
/-- east column away, west column away -/
theorem zb_noE {k : Int} (h1 : 0 ≤ k) (h2 : k < 64) : zb 9187201950435737471 k ↔ ¬ k % 8 = 7 := by
  unfold zb
  have : ∀ k : Nat, k < 64 → ((9187201950435737471 : Int64).toBitVec.getLsbD k = true ↔ ¬ k % 8 = 7) := by decide +kernel
  rw [this _ (by omega)]
  omega
theorem zb_noW {k : Int} (h1 : 0 ≤ k) (h2 : k < 64) : zb (-72340172838076674) k ↔ ¬ k % 8 = 0 := by
  unfold zb
  have : ∀ k : Nat, k < 64 → ((-72340172838076674 : Int64).toBitVec.getLsbD k = true ↔ ¬ k % 8 = 0) := by decide +kernel
  rw [this _ (by omega)]
  omega
/-- a line of cells -/
theorem zb_line {w k : Int} (h0 : 0 ≤ w) (h8 : w ≤ 8) (h1 : 0 ≤ k) (h2 : k < 64) : zb (((1 : Int64) <<< ((iI w).toInt64 &&& 63)) - (1 : Int64)) k ↔ k < w := by
  unfold zb
  have : ∀ w : Nat, w < 9 → ∀ k : Nat, k < 64 → ((((1 : Int64) <<< ((Int32.ofNat w).toInt64 &&& 63)) - (1 : Int64)).toBitVec.getLsbD k = true ↔ k < w) := by decide +kernel
  rw [iI_nat h0, this _ (by omega) _ (by omega)]
  omega
