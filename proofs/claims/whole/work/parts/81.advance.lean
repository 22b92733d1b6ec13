/-! the class's reader of TOKENS -/
/-- a reader's own numbers -/
def TX (h : AH) (tx ci : Nat) (n m f fa p a : Int) : Prop := ob h tx ci ∧ aP h tx 1 = some 1 ∧ rd h tx 2 = n ∧ rd h tx 3 = m ∧ rd h tx 10 = f ∧ rd h tx 11 = fa ∧ rd h tx 4 = p ∧ rd h tx 5 = a
def TXs (h : AH) (T : Int → Int) : Prop := ob h 1 12 ∧ aL h 1 = 940 ∧ rd h 1 = T ∧ ∀ k, -128 ≤ T k ∧ T k ≤ 127
/-- the slots of a reader that a TOKEN fills -/
def tkF (h h' : AH) (tx : Nat) : Prop := Fr [tx] [] [] h h' ∧ ∀ j, j ∉ [(4 : Int), 5, 6, 7, 8, 9] → rd h' tx j = rd h tx j
section ADV
variable {h h1 h2 h' : AH} {tx ci : Nat} {postV : AH → Prop} {post : AH → Int32 → Prop} {a b c d r x y n m p f fa q e k : Int} {T : Int → Int}
theorem tkF.trans (u : tkF h h1 tx) (v : tkF h1 h2 tx) : tkF h h2 tx := ⟨u.1.trans v.1, fun j hj => (v.2 j hj).trans (u.2 j hj)⟩
theorem tkF.refl (h : AH) (tx : Nat) : tkF h h tx := ⟨(Fr.refl h).mono (by simp) (by simp) (by simp), fun _ _ => rfl⟩
theorem tkF.one {i v : Int} (hi : i = 4 ∨ i = 5 ∨ i = 6 ∨ i = 7 ∨ i = 8 ∨ i = 9) (F : Fr [tx] [] [] h h') (R : rd h' tx = updT (rd h tx) i v) : tkF h h' tx := ⟨F, fun j hj => by
  rw [R, updT_n]
  intro q
  rw [q] at hj
  rcases hi with e | e | e | e | e | e <;> (rw [e] at hj; exact absurd hj (by decide))⟩
theorem TXs.fr {wi wj : List Nat} (X : TXs h T) (F : Fr wi wj [] h h') (h1 : (1 : Nat) ∉ wi) : TXs h' T := ⟨F.gr.ob X.1, by rw [F.2.2.2.1]; exact X.2.1, by rw [F.row h1]; exact X.2.2.1, X.2.2.2⟩
theorem alC_iff : ¬ alC x ↔ ¬ ltC x ∧ ¬ dgC x := ⟨fun h => ⟨fun p => h (Or.inl p), fun p => h (Or.inr p)⟩, fun h p => p.elim h.1 h.2⟩
/-- what a run's count knows -/
def RnI (T : Int → Int) (q i nl nd v : Int) : Prop := (q ≤ i) ∧ (0 ≤ nl) ∧ (0 ≤ nd) ∧ (nl + nd = i - q) ∧ (nd = 0 → allI ltC T q i) ∧ (nl = 0 → allI dgC T q i) ∧ (nl ≠ 0 → ¬ allI dgC T q i) ∧ (nd ≠ 0 → ¬ allI ltC T q i) ∧ (nd = 0 → nl ≤ 6 → v = w5 (rnW T q i)) ∧ (nl = 0 → nd ≤ 8 → v = rnV T q i)
theorem RnI.qi {T : Int → Int} {q i nl nd v : Int} (R : RnI T q i nl nd v) : q ≤ i := R.1
theorem RnI.l0 {T : Int → Int} {q i nl nd v : Int} (R : RnI T q i nl nd v) : 0 ≤ nl := R.2.1
theorem RnI.d0 {T : Int → Int} {q i nl nd v : Int} (R : RnI T q i nl nd v) : 0 ≤ nd := R.2.2.1
theorem RnI.ld {T : Int → Int} {q i nl nd v : Int} (R : RnI T q i nl nd v) : nl + nd = i - q := R.2.2.2.1
theorem RnI.al {T : Int → Int} {q i nl nd v : Int} (R : RnI T q i nl nd v) : nd = 0 → allI ltC T q i := R.2.2.2.2.1
theorem RnI.ad {T : Int → Int} {q i nl nd v : Int} (R : RnI T q i nl nd v) : nl = 0 → allI dgC T q i := R.2.2.2.2.2.1
theorem RnI.nal {T : Int → Int} {q i nl nd v : Int} (R : RnI T q i nl nd v) : nl ≠ 0 → ¬ allI dgC T q i := R.2.2.2.2.2.2.1
theorem RnI.nad {T : Int → Int} {q i nl nd v : Int} (R : RnI T q i nl nd v) : nd ≠ 0 → ¬ allI ltC T q i := R.2.2.2.2.2.2.2.1
theorem RnI.vl {T : Int → Int} {q i nl nd v : Int} (R : RnI T q i nl nd v) : nd = 0 → nl ≤ 6 → v = w5 (rnW T q i) := R.2.2.2.2.2.2.2.2.1
theorem RnI.vd {T : Int → Int} {q i nl nd v : Int} (R : RnI T q i nl nd v) : nl = 0 → nd ≤ 8 → v = rnV T q i := R.2.2.2.2.2.2.2.2.2
theorem RnI.zero : RnI T q q 0 0 0 := ⟨Int.le_refl _, Int.le_refl _, Int.le_refl _, by omega, fun _ j j1 j2 => by omega, fun _ j j1 j2 => by omega, fun u => absurd rfl u, fun u => absurd rfl u, fun _ _ => by rw [rnW_0]; rfl, fun _ _ => by rw [rnV_0]⟩
theorem allI_snoc {P : Int → Prop} {i : Int} (u : allI P T q i) (v : P (T i)) : allI P T q (i + 1) := fun j j1 j2 => by
  by_cases cj : j = i
  · subst cj; exact v
  · exact u j j1 (by omega)
theorem RnI.letter {i nl nd v : Int} (R : RnI T q i nl nd v) (cl : ltC (T i)) : RnI T q (i + 1) (nl + 1) nd (iI v <<< iI 5 ||| iI (T i - 97 + 1)).toInt := by
  obtain ⟨qi, l0, d0, ld, al, ad, nal, nad, vl, vd⟩ := R
  have cl' := cl
  unfold ltC at cl'
  have nd9 : ¬ dgC (T i) := by unfold dgC; omega
  refine ⟨by omega, by omega, d0, by omega, fun u => allI_snoc (al u) cl, fun u => by omega, fun _ u => nd9 (u i qi (by omega)), fun u v => nad u fun j j1 j2 => v j j1 (by omega), fun u u6 => ?_, fun u _ => by omega⟩
  rw [vl u (by omega), rnW_s qi]
  have lt5 := w5_bd (rnW T q i) (by
    have := rnW_lt (T := T) (q := q) (i - q).toNat
    rw [show q + ((i - q).toNat : Int) = i by omega] at this
    exact this (al u))
  have len := rnW_l (T := T) qi
  have bnd : p32 (rnW T q i).length ≤ 33554432 := by
    have : ∀ k : Nat, k < 6 → p32 k ≤ 33554432 := by decide
    exact this _ (by omega)
  rw [show T i - 97 + 1 = T i - 96 by omega, shl5 lt5.1 (by omega) (by omega) (by omega)]
  show (iI (32 * w5 (rnW T q i) + (T i - 96))).toInt = 32 * w5 (rnW T q i) + (T i - 96)
  rw [iI_toInt (by omega) (by omega)]
theorem RnI.digit {i nl nd v : Int} (R : RnI T q i nl nd v) (cd : dgC (T i)) : RnI T q (i + 1) nl (nd + 1) (iI (v * 10 + T i - 48)).toInt := by
  obtain ⟨qi, l0, d0, ld, al, ad, nal, nad, vl, vd⟩ := R
  have cd' := cd
  unfold dgC at cd'
  have cl : ¬ ltC (T i) := by unfold ltC; omega
  refine ⟨by omega, l0, by omega, by omega, fun u => by omega, fun u => allI_snoc (ad u) cd, fun u v => nal u fun j j1 j2 => v j j1 (by omega), fun _ u => cl (u i qi (by omega)), fun u _ => by omega, fun u u8 => ?_⟩
  rw [vd u (by omega), rnV_s qi]
  have bd := rnV_bd (T := T) (q := q) (i - q).toNat (by rw [show q + ((i - q).toNat : Int) = i by omega]; exact ad u)
  rw [show q + ((i - q).toNat : Int) = i by omega] at bd
  have bnd : p10 (i - q).toNat ≤ 10000000 := by
    have : ∀ k : Nat, k < 8 → p10 k ≤ 10000000 := by decide
    exact this _ (by omega)
  rw [iI_toInt (by omega) (by omega)]
/-- the kind that a whole run has -/
theorem RnI.k1 {nl nd v : Int} (R : RnI T q e nl nd v) (h : nd = 0) (h1 : 1 ≤ nl) (h6 : nl ≤ 6) : rnK T q e = 1 ∧ v = w5 (rnW T q e) := by
  have := R.ld
  exact ⟨by unfold rnK; rw [ite_f (by omega), ite_t ⟨R.al h, by omega⟩], R.vl h h6⟩
theorem RnI.k2 {nl nd v : Int} (R : RnI T q e nl nd v) (h : nd ≠ 0) (hl : nl = 0) (h8 : nd ≤ 8) : rnK T q e = 2 ∧ v = rnV T q e := by
  have := R.ld
  exact ⟨by unfold rnK; rw [ite_f (by omega), ite_f (fun p => R.nad h p.1), ite_t ⟨R.ad hl, by omega⟩], R.vd hl h8⟩
theorem RnI.k0 {nl nd v : Int} (R : RnI T q e nl nd v) (h : (nl = 0 ∧ nd = 0) ∨ (nd = 0 ∧ 6 < nl) ∨ (nl = 0 ∧ 8 < nd) ∨ (nl ≠ 0 ∧ nd ≠ 0)) : rnK T q e = 0 := by
  have hld := R.ld
  have hl0 := R.l0
  have hd0 := R.d0
  unfold rnK
  rcases h with ⟨h1, h2⟩ | ⟨h1, h2⟩ | ⟨h1, h2⟩ | ⟨h1, h2⟩
  · rw [ite_t (by omega)]
  · rw [ite_f (by omega), ite_f (fun p => by omega), ite_f (fun p => R.nal (by omega) p.1)]
  · rw [ite_f (by omega), ite_f (fun p => R.nad (by omega) p.1), ite_f (fun p => by omega)]
  · rw [ite_f (by omega), ite_f (fun p => R.nad h2 p.1), ite_f (fun p => R.nal h1 p.1)]
/-- the slots of a reader at the end of a run -/
def RnO (T : Int → Int) (h h' : AH) (tx : Nat) (q e : Int) : Prop := tkF h h' tx ∧ rd h' tx 4 = rd h tx 4 ∧ rd h' tx 5 = rd h tx 5 ∧ rd h' tx 9 = rd h tx 9 ∧ rd h' tx 6 = rnK T q e ∧ rd h' tx 8 = e - q ∧ (rnK T q e = 1 → rd h' tx 7 = w5 (rnW T q e)) ∧ (rnK T q e = 2 → rd h' tx 7 = rnV T q e)
theorem c_runEnd {nl nd : Int} (O : ob h tx ci) (hs : e - q ≤ 1000) (R : RnI T q e nl nd (rd h tx 7)) (k : ∀ h', RnO T h h' tx q e → postV h') : wb_X7_readRun_109 ci h tx (iI nl) (iI nd) postV := by
  have l0 := R.l0
  have d0 := R.d0
  have hld := R.ld
  unfold wb_X7_readRun_109 wb_X7_readRun_144
  simp (disch := omega) only [O, -Int.reduceToNat, -Int32.reduceToNatClampNeg, il0, il1, il2, il3, il4, il5, il6, il7, il8, il9, il10, il11, il12, il13, il14, il15, il16, il17, il18, il19, il20, il21, il22, il23, il24, il25, il26, il27, il28, il29, il30, il31, il32, il35, il36, il38, il40, il42, il43, il44, il45, il46, il47, il48, il49, il50, il51, il52, il57, il59, il60, il63, il64, il75, il80, il95, il96, il97, il98, il99, il100, il120, il122, il123, il127, il128, il135, il167, il175, il225, il249, il250, il255, il256, il360, il370, il384, il600, il700, il740, il900, il940, il1024, il1600, il4800, il64000, il125000, il262143, il1000000000, iI_toInt, iI_add, iI_sub, iI_mul, iI_neg, iI_lt, iI_le, iI_eq, iI_n, iI_in, iI_div, iI_mod, iI_shm, iI_and1, iI_and7, iI_and63, iI_shr3, iI_shr6, rd_I, ob, Option.some.injEq, exists_eq_left', exists_eq_left, true_and, and_true, fqI, fqJ, eq_self, true_or, or_true, bP_0, bP_0i, npP, bP_1i, bP_b, not_true_eq_false, not_false_eq_true, false_implies, true_implies, implies_true, Classical.not_not, and_self]
  intro g1 e1
  obtain ⟨f1, r1⟩ := wI (i := 8) (by omega) (by omega) (by omega) e1
  have t1 : tkF h g1 tx := tkF.one (by omega) f1 r1
  have O1 : ob g1 tx ci := f1.gr.ob O
  simp (disch := omega) only [O1, -Int.reduceToNat, -Int32.reduceToNatClampNeg, il0, il1, il2, il3, il4, il5, il6, il7, il8, il9, il10, il11, il12, il13, il14, il15, il16, il17, il18, il19, il20, il21, il22, il23, il24, il25, il26, il27, il28, il29, il30, il31, il32, il35, il36, il38, il40, il42, il43, il44, il45, il46, il47, il48, il49, il50, il51, il52, il57, il59, il60, il63, il64, il75, il80, il95, il96, il97, il98, il99, il100, il120, il122, il123, il127, il128, il135, il167, il175, il225, il249, il250, il255, il256, il360, il370, il384, il600, il700, il740, il900, il940, il1024, il1600, il4800, il64000, il125000, il262143, il1000000000, iI_toInt, iI_add, iI_sub, iI_mul, iI_neg, iI_lt, iI_le, iI_eq, iI_n, iI_in, iI_div, iI_mod, iI_shm, iI_and1, iI_and7, iI_and63, iI_shr3, iI_shr6, rd_I, ob, Option.some.injEq, exists_eq_left', exists_eq_left, true_and, and_true, fqI, fqJ, eq_self, true_or, or_true, bP_0, bP_0i, npP, bP_1i, bP_b, not_true_eq_false, not_false_eq_true, false_implies, true_implies, implies_true, Classical.not_not, and_self]
  intro g2 e2
  obtain ⟨f2, r2⟩ := wI (i := 6) (by omega) (by omega) (by omega) e2
  have t2 : tkF g1 g2 tx := tkF.one (by omega) f2 r2
  have O2 : ob g2 tx ci := f2.gr.ob O1
  have base : ∀ (g3 : AH) (v : Int), tkF g2 g3 tx → (∀ j, j ≠ 6 → rd g3 tx j = rd g2 tx j) → rd g3 tx 6 = v → v = rnK T q e → (v = 1 → rd h tx 7 = w5 (rnW T q e)) → (v = 2 → rd h tx 7 = rnV T q e) → postV g3 := by
    intro g3 v t3 o3 s6 ev v1 v2
    have back : ∀ j, j ≠ 6 → j ≠ 8 → rd g3 tx j = rd h tx j := fun j h6 h8 => by rw [o3 j h6, r2, updT_n h6, r1, updT_n h8]
    exact k g3 ⟨t1.trans (t2.trans t3), back 4 (by omega) (by omega), back 5 (by omega) (by omega), back 9 (by omega) (by omega), by rw [s6, ev], by rw [o3 8 (by omega), r2, updT_n (by omega), r1, updT_s, hld], fun hk => by rw [back 7 (by omega) (by omega)]; exact v1 (by omega), fun hk => by rw [back 7 (by omega) (by omega)]; exact v2 (by omega)⟩
  have b0 : rnK T q e = 0 → postV g2 := fun ev => base g2 0 (tkF.refl _ _) (fun _ _ => rfl) (by rw [r2, updT_s]) ev.symm (fun u => by omega) (fun u => by omega)
  simp (disch := omega) only [O2, -Int.reduceToNat, -Int32.reduceToNatClampNeg, il0, il1, il2, il3, il4, il5, il6, il7, il8, il9, il10, il11, il12, il13, il14, il15, il16, il17, il18, il19, il20, il21, il22, il23, il24, il25, il26, il27, il28, il29, il30, il31, il32, il35, il36, il38, il40, il42, il43, il44, il45, il46, il47, il48, il49, il50, il51, il52, il57, il59, il60, il63, il64, il75, il80, il95, il96, il97, il98, il99, il100, il120, il122, il123, il127, il128, il135, il167, il175, il225, il249, il250, il255, il256, il360, il370, il384, il600, il700, il740, il900, il940, il1024, il1600, il4800, il64000, il125000, il262143, il1000000000, iI_toInt, iI_add, iI_sub, iI_mul, iI_neg, iI_lt, iI_le, iI_eq, iI_n, iI_in, iI_div, iI_mod, iI_shm, iI_and1, iI_and7, iI_and63, iI_shr3, iI_shr6, rd_I, ob, Option.some.injEq, exists_eq_left', exists_eq_left, true_and, and_true, fqI, fqJ, eq_self, true_or, or_true, bP_0, bP_0i, npP, bP_1i, bP_b, not_true_eq_false, not_false_eq_true, false_implies, true_implies, implies_true, Classical.not_not, and_self, cP, cP', ite_n]
  by_cases hd : nd = 0
  · rw [ite_t hd]
    by_cases hl1 : nl < 1
    · rw [ite_t hl1]
      have z : nl = 0 := by omega
      rw [ite_t z, ite_t (by omega)]
      exact b0 (R.k0 (Or.inl ⟨z, hd⟩))
    rw [ite_f hl1]
    by_cases h6 : 6 < nl
    · rw [ite_t h6, ite_f (by omega)]
      exact b0 (R.k0 (Or.inr (Or.inl ⟨hd, h6⟩)))
    rw [ite_f h6]
    intro g3 e3
    obtain ⟨f3, r3⟩ := wI (i := 6) (by omega) (by omega) (by omega) e3
    obtain ⟨k1, k2⟩ := R.k1 hd (by omega) (by omega)
    exact base g3 1 (tkF.one (by omega) f3 r3) (fun j hj => by rw [r3, updT_n hj]) (by rw [r3, updT_s]) k1.symm (fun _ => k2) (fun u => by omega)
  rw [ite_f hd]
  by_cases hl : nl = 0
  · rw [ite_t hl, ite_f (by omega)]
    by_cases h8 : 8 < nd
    · rw [ite_t h8]
      exact b0 (R.k0 (Or.inr (Or.inr (Or.inl ⟨hl, h8⟩))))
    rw [ite_f h8]
    intro g3 e3
    obtain ⟨f3, r3⟩ := wI (i := 6) (by omega) (by omega) (by omega) e3
    obtain ⟨k1, k2⟩ := R.k2 hd hl (by omega)
    exact base g3 2 (tkF.one (by omega) f3 r3) (fun j hj => by rw [r3, updT_n hj]) (by rw [r3, updT_s]) k1.symm (fun u => by omega) (fun _ => k2)
  · rw [ite_f hl]
    exact b0 (R.k0 (Or.inr (Or.inr (Or.inr ⟨hl, hd⟩))))
/-- a reader at sign i of a run -/
def RnS (T : Int → Int) (h0 h : AH) (tx ci : Nat) (n i : Int) : Prop := (ob h tx ci) ∧ (aP h tx 1 = some 1) ∧ (TXs h T) ∧ (tkF h0 h tx) ∧ (rd h tx 2 = n) ∧ (rd h tx 4 = i) ∧ (rd h tx 5 = rd h0 tx 5) ∧ (rd h tx 9 = rd h0 tx 9)
theorem RnS.o {T : Int → Int} {h0 h : AH} {tx ci : Nat} {n i : Int} (R : RnS T h0 h tx ci n i) : ob h tx ci := R.1
theorem RnS.pp {T : Int → Int} {h0 h : AH} {tx ci : Nat} {n i : Int} (R : RnS T h0 h tx ci n i) : aP h tx 1 = some 1 := R.2.1
theorem RnS.X {T : Int → Int} {h0 h : AH} {tx ci : Nat} {n i : Int} (R : RnS T h0 h tx ci n i) : TXs h T := R.2.2.1
theorem RnS.t {T : Int → Int} {h0 h : AH} {tx ci : Nat} {n i : Int} (R : RnS T h0 h tx ci n i) : tkF h0 h tx := R.2.2.2.1
theorem RnS.s2 {T : Int → Int} {h0 h : AH} {tx ci : Nat} {n i : Int} (R : RnS T h0 h tx ci n i) : rd h tx 2 = n := R.2.2.2.2.1
theorem RnS.s4 {T : Int → Int} {h0 h : AH} {tx ci : Nat} {n i : Int} (R : RnS T h0 h tx ci n i) : rd h tx 4 = i := R.2.2.2.2.2.1
theorem RnS.s5 {T : Int → Int} {h0 h : AH} {tx ci : Nat} {n i : Int} (R : RnS T h0 h tx ci n i) : rd h tx 5 = rd h0 tx 5 := R.2.2.2.2.2.2.1
theorem RnS.s9 {T : Int → Int} {h0 h : AH} {tx ci : Nat} {n i : Int} (R : RnS T h0 h tx ci n i) : rd h tx 9 = rd h0 tx 9 := R.2.2.2.2.2.2.2
theorem RnS.one {h0 : AH} {i j w v : Int} (S : RnS T h0 h tx ci n i) (ht : tx ≠ 1) (F : Fr [tx] [] [] h h') (R : rd h' tx = updT (rd h tx) j w) (hj : (j = 4 ∧ w = v) ∨ (j = 7 ∧ v = i)) : RnS T h0 h' tx ci n v := by
  have hn : j ≠ 2 ∧ j ≠ 5 ∧ j ≠ 9 := by omega
  refine ⟨F.gr.ob S.o, by rw [F.aPe]; exact S.pp, S.X.fr F (by simpa using ht.symm), S.t.trans (tkF.one (by omega) F R), by rw [R, updT_n (by omega), S.s2], ?_, by rw [R, updT_n (by omega), S.s5], by rw [R, updT_n (by omega), S.s9]⟩
  rcases hj with ⟨a, b⟩ | ⟨a, b⟩
  · rw [R, a, updT_s, b]
  · rw [R, updT_n (by omega), S.s4, b]
theorem c_runNext {K9 : AH → Nat → Int32 → Int32 → Prop} {h0 : AH} {i nl nd : Int} (S : RnS T h0 h tx ci n i) (ht : tx ≠ 1) (b : 0 ≤ i ∧ i ≤ 1000) (k : ∀ h', RnS T h0 h' tx ci n (i + 1) → rd h' tx 7 = rd h tx 7 → K9 h' tx (iI nl) (iI nd)) : wb_X7_readRun_96 ci K9 h tx (iI nl) (iI nd) postV := by
  unfold wb_X7_readRun_96
  simp (disch := omega) only [S.o, fd0, fd1, fd2, fd3, fd4, fd5, fd6, fd7, fd8, fd9, fd10, fd11, fd12, fd13, fd14, fd15, fd16, fd17, fd18, fd19, fd20, fd21, fd22, fd23, fd24, fd25, fd26, fd27, fd28, fd29, fd30, fd31, fd32, fd33, fd34, fd35, fd36, fd37, fd38, fd39, fd40, fd41, fd42, fd43, fd44, fd45, fd46, fd47, fd48, fd49, fd50, fd51, fd52, S.s4, -Int.reduceToNat, -Int32.reduceToNatClampNeg, il0, il1, il2, il3, il4, il5, il6, il7, il8, il9, il10, il11, il12, il13, il14, il15, il16, il17, il18, il19, il20, il21, il22, il23, il24, il25, il26, il27, il28, il29, il30, il31, il32, il35, il36, il38, il40, il42, il43, il44, il45, il46, il47, il48, il49, il50, il51, il52, il57, il59, il60, il63, il64, il75, il80, il95, il96, il97, il98, il99, il100, il120, il122, il123, il127, il128, il135, il167, il175, il225, il249, il250, il255, il256, il360, il370, il384, il600, il700, il740, il900, il940, il1024, il1600, il4800, il64000, il125000, il262143, il1000000000, iI_toInt, iI_add, iI_sub, iI_mul, iI_neg, iI_lt, iI_le, iI_eq, iI_n, iI_in, iI_div, iI_mod, iI_shm, iI_and1, iI_and7, iI_and63, iI_shr3, iI_shr6, rd_I, ob, Option.some.injEq, exists_eq_left', exists_eq_left, true_and, and_true, fqI, fqJ, eq_self, true_or, or_true, bP_0, bP_0i, npP, bP_1i, bP_b, not_true_eq_false, not_false_eq_true, false_implies, true_implies, implies_true, Classical.not_not, and_self]
  intro g3 e3
  obtain ⟨f3, r3⟩ := wI (i := 4) (by omega) (by omega) (by omega) e3
  exact k g3 (S.one ht f3 r3 (by omega)) (by rw [r3, updT_n (by omega)])
/-- at the end -/
theorem c_runStop {K9 : AH → Nat → Int32 → Int32 → Prop} {h0 : AH} {i nl nd : Int} (S : RnS T h0 h tx ci n i) (b : 0 ≤ i ∧ i ≤ n) (hn : n ≤ 940) (na : i < n → ¬ alC (T i)) (k : wb_X7_readRun_109 ci h tx (iI nl) (iI nd) postV) : wb_X7_readRun_9 ci K9 h tx (iI nl) (iI nd) postV := by
  obtain ⟨x1, x2, x3, x4⟩ := S.X
  have O := S.o
  have pg := S.pp
  have g2 := S.s2
  have g4 := S.s4
  unfold wb_X7_readRun_9 wb_X7_readRun_65
  simp (disch := omega) only [O, fd0, fd1, fd2, fd3, fd4, fd5, fd6, fd7, fd8, fd9, fd10, fd11, fd12, fd13, fd14, fd15, fd16, fd17, fd18, fd19, fd20, fd21, fd22, fd23, fd24, fd25, fd26, fd27, fd28, fd29, fd30, fd31, fd32, fd33, fd34, fd35, fd36, fd37, fd38, fd39, fd40, fd41, fd42, fd43, fd44, fd45, fd46, fd47, fd48, fd49, fd50, fd51, fd52, g2, g4, -Int.reduceToNat, -Int32.reduceToNatClampNeg, il0, il1, il2, il3, il4, il5, il6, il7, il8, il9, il10, il11, il12, il13, il14, il15, il16, il17, il18, il19, il20, il21, il22, il23, il24, il25, il26, il27, il28, il29, il30, il31, il32, il35, il36, il38, il40, il42, il43, il44, il45, il46, il47, il48, il49, il50, il51, il52, il57, il59, il60, il63, il64, il75, il80, il95, il96, il97, il98, il99, il100, il120, il122, il123, il127, il128, il135, il167, il175, il225, il249, il250, il255, il256, il360, il370, il384, il600, il700, il740, il900, il940, il1024, il1600, il4800, il64000, il125000, il262143, il1000000000, iI_toInt, iI_add, iI_sub, iI_mul, iI_neg, iI_lt, iI_le, iI_eq, iI_n, iI_in, iI_div, iI_mod, iI_shm, iI_and1, iI_and7, iI_and63, iI_shr3, iI_shr6, rd_I, ob, Option.some.injEq, exists_eq_left', exists_eq_left, true_and, and_true, fqI, fqJ, eq_self, true_or, or_true, bP_0, bP_0i, npP, bP_1i, bP_b, not_true_eq_false, not_false_eq_true, false_implies, true_implies, implies_true, Classical.not_not, and_self, cP, cP', ite_n]
  by_cases c : n ≤ i
  · rw [ite_t c]; exact k
  rw [ite_f c]
  have na := na (by omega)
  rw [alC_iff] at na
  obtain ⟨na1, na2⟩ := na
  unfold ltC at na1
  unfold dgC at na2
  have bt := x4 i
  simp (disch := omega) only [pg, x1, x2, x3, fd0, fd1, fd2, fd3, fd4, fd5, fd6, fd7, fd8, fd9, fd10, fd11, fd12, fd13, fd14, fd15, fd16, fd17, fd18, fd19, fd20, fd21, fd22, fd23, fd24, fd25, fd26, fd27, fd28, fd29, fd30, fd31, fd32, fd33, fd34, fd35, fd36, fd37, fd38, fd39, fd40, fd41, fd42, fd43, fd44, fd45, fd46, fd47, fd48, fd49, fd50, fd51, fd52, -Int.reduceToNat, -Int32.reduceToNatClampNeg, il0, il1, il2, il3, il4, il5, il6, il7, il8, il9, il10, il11, il12, il13, il14, il15, il16, il17, il18, il19, il20, il21, il22, il23, il24, il25, il26, il27, il28, il29, il30, il31, il32, il35, il36, il38, il40, il42, il43, il44, il45, il46, il47, il48, il49, il50, il51, il52, il57, il59, il60, il63, il64, il75, il80, il95, il96, il97, il98, il99, il100, il120, il122, il123, il127, il128, il135, il167, il175, il225, il249, il250, il255, il256, il360, il370, il384, il600, il700, il740, il900, il940, il1024, il1600, il4800, il64000, il125000, il262143, il1000000000, iI_toInt, iI_add, iI_sub, iI_mul, iI_neg, iI_lt, iI_le, iI_eq, iI_n, iI_in, iI_div, iI_mod, iI_shm, iI_and1, iI_and7, iI_and63, iI_shr3, iI_shr6, rd_I, ob, Option.some.injEq, exists_eq_left', exists_eq_left, true_and, and_true, fqI, fqJ, eq_self, true_or, or_true, bP_0, bP_0i, npP, bP_1i, bP_b, not_true_eq_false, not_false_eq_true, false_implies, true_implies, implies_true, Classical.not_not, and_self, cP, cP', ite_n]
  by_cases c1 : T i < 97
  · rw [ite_t c1]
    by_cases c2 : T i < 48
    · rw [ite_t c2]; exact k
    · rw [ite_f c2, ite_t (by omega)]; exact k
  · rw [ite_f c1, ite_t (by omega), ite_f (by omega), ite_t (by omega)]; exact k
/-- one sign -/
theorem c_runStep {K9 : AH → Nat → Int32 → Int32 → Prop} {h0 : AH} {i nl nd : Int} (S : RnS T h0 h tx ci n i) (ht : tx ≠ 1) (b : 0 ≤ i ∧ i < n) (hn : n ≤ 940) (R : RnI T q i nl nd (rd h tx 7)) (hq : 0 ≤ q) (ia : alC (T i)) (k : ∀ h' nl' nd', RnS T h0 h' tx ci n (i + 1) → RnI T q (i + 1) nl' nd' (rd h' tx 7) → K9 h' tx (iI nl') (iI nd')) : wb_X7_readRun_9 ci K9 h tx (iI nl) (iI nd) postV := by
  obtain ⟨x1, x2, x3, x4⟩ := S.X
  have O := S.o
  have pg := S.pp
  have g2 := S.s2
  have g4 := S.s4
  have l0 := R.l0
  have d0 := R.d0
  have hld := R.ld
  have bt := x4 i
  unfold wb_X7_readRun_9 wb_X7_readRun_65
  simp (disch := omega) only [O, pg, x1, x2, x3, fd0, fd1, fd2, fd3, fd4, fd5, fd6, fd7, fd8, fd9, fd10, fd11, fd12, fd13, fd14, fd15, fd16, fd17, fd18, fd19, fd20, fd21, fd22, fd23, fd24, fd25, fd26, fd27, fd28, fd29, fd30, fd31, fd32, fd33, fd34, fd35, fd36, fd37, fd38, fd39, fd40, fd41, fd42, fd43, fd44, fd45, fd46, fd47, fd48, fd49, fd50, fd51, fd52, g2, g4, -Int.reduceToNat, -Int32.reduceToNatClampNeg, il0, il1, il2, il3, il4, il5, il6, il7, il8, il9, il10, il11, il12, il13, il14, il15, il16, il17, il18, il19, il20, il21, il22, il23, il24, il25, il26, il27, il28, il29, il30, il31, il32, il35, il36, il38, il40, il42, il43, il44, il45, il46, il47, il48, il49, il50, il51, il52, il57, il59, il60, il63, il64, il75, il80, il95, il96, il97, il98, il99, il100, il120, il122, il123, il127, il128, il135, il167, il175, il225, il249, il250, il255, il256, il360, il370, il384, il600, il700, il740, il900, il940, il1024, il1600, il4800, il64000, il125000, il262143, il1000000000, iI_toInt, iI_add, iI_sub, iI_mul, iI_neg, iI_lt, iI_le, iI_eq, iI_n, iI_in, iI_div, iI_mod, iI_shm, iI_and1, iI_and7, iI_and63, iI_shr3, iI_shr6, rd_I, ob, Option.some.injEq, exists_eq_left', exists_eq_left, true_and, and_true, fqI, fqJ, eq_self, true_or, or_true, bP_0, bP_0i, npP, bP_1i, bP_b, not_true_eq_false, not_false_eq_true, false_implies, true_implies, implies_true, Classical.not_not, and_self, cP, cP', ite_n, ite_f]
  by_cases cl : ltC (T i)
  · have R' := R.letter cl
    have cl' := cl
    unfold ltC at cl'
    rw [ite_f (by omega), ite_f (by omega)]
    intro g1 e1
    have e1' : g1 = hI h tx 7 (iI (iI (rd h tx 7) <<< iI 5 ||| iI (T i - 97 + 1)).toInt) := by rw [iI_of]; exact e1
    obtain ⟨f1, r1⟩ := wI (i := 7) (by omega) (Int32.le_toInt _) (Int32.toInt_lt _) e1'
    exact c_runNext (S.one ht f1 r1 (by omega)) ht (by omega) fun h' S' e7 => k h' (nl + 1) nd S' (by rw [e7, r1, updT_s]; exact R')
  · have cd : dgC (T i) := ia.elim (fun u => absurd u cl) id
    have R' := R.digit cd
    have cd' := cd
    unfold dgC at cd'
    rw [ite_t (by omega), ite_f (by omega), ite_f (by omega)]
    intro g1 e1
    have e1' : g1 = hI h tx 7 (iI (iI (rd h tx 7 * 10 + T i - 48)).toInt) := by rw [iI_of]; exact e1
    obtain ⟨f1, r1⟩ := wI (i := 7) (by omega) (Int32.le_toInt _) (Int32.toInt_lt _) e1'
    exact c_runNext (S.one ht f1 r1 (by omega)) ht (by omega) fun h' S' e7 => k h' nl (nd + 1) S' (by rw [e7, r1, updT_s]; exact R')
theorem c_readRun (O : ob h tx ci) (hp : aP h tx 1 = some 1) (X : TXs h T) (ht : tx ≠ 1) (en : rd h tx 2 = n) (eq' : rd h tx 4 = q) (hq : 0 ≤ q ∧ q ≤ n) (hn : n ≤ 940)
    (k : ∀ h', tkF h h' tx → rd h' tx 4 = rnE T n q → rd h' tx 5 = rd h tx 5 → rd h' tx 9 = rd h tx 9 → rd h' tx 6 = rnK T q (rnE T n q) → rd h' tx 8 = rnE T n q - q → (rnK T q (rnE T n q) = 1 → rd h' tx 7 = w5 (rnW T q (rnE T n q))) → (rnK T q (rnE T n q) = 2 → rd h' tx 7 = rnV T q (rnE T n q)) → postV h') : wp_X7_readRun ci h tx postV := by
  obtain ⟨⟨s1, s2⟩, s3, s4⟩ := fz_spec (P := fun i => ¬ alC (T i)) (n - q).toNat q
  have hE : fz (fun i => ¬ alC (T i)) (n - q).toNat q = rnE T n q := rfl
  rw [hE] at s1 s2 s3 s4
  generalize hee : rnE T n q = e at *
  unfold wp_X7_readRun
  refine ⟨O, fun ha ea => ?_⟩
  obtain ⟨fa, ra⟩ := wI (i := 7) (v := 0) (by omega) (by omega) (by omega) ea
  have S0 : RnS T h h tx ci n q := ⟨O, hp, X, tkF.refl _ _, en, eq', rfl, rfl⟩
  have S1 : RnS T h ha tx ci n q := S0.one ht fa ra (by omega)
  have loop : ∀ (d : Nat) (g : AH) (i nl nd : Int), i + d = e → q ≤ i → RnS T h g tx ci n i → RnI T q i nl nd (rd g tx 7) → wl_X7_readRun_9 ci postV (d + 1) g tx (iI nl) (iI nd) := by
    intro d
    induction d with
    | zero =>
      intro g i nl nd hi qi S R
      have ei : i = e := by omega
      subst ei
      exact c_runStop S (by omega) hn (fun u => s4 (by omega)) (c_runEnd S.o (by omega) R fun h' ⟨u1, u2, u3, u4, u5, u6, u7, u8⟩ => k h' (S.t.trans u1) (by rw [u2, S.s4]) (by rw [u3, S.s5]) (by rw [u4, S.s9]) u5 u6 u7 u8)
    | succ d ih =>
      intro g i nl nd hi qi S R
      exact c_runStep S ht (by omega) hn R hq.1 (Classical.not_not.mp (s3 i qi (by omega))) fun h' nl' nd' S' R' => ih h' (i + 1) nl' nd' (by omega) (by omega) S' R'
  exact ⟨(e - q).toNat + 1, loop (e - q).toNat ha q 0 0 (by omega) (Int.le_refl _) S1 (by rw [ra, updT_s]; exact RnI.zero)⟩
end ADV
