/-! the class's town laid -/
def LD (tw la : Nat) : Prop := tw + 2 < la ∨ la + 20 < tw
theorem LB.fr {wi wj wq : List Nat} {h h' : AH} {la : Nat} (H : LB h la) (f : Fr wi wj wq h h') (hq : ∀ j, j ≤ 20 → la + j ∉ wq) : LB h' la := by
  have e1 := f.1
  have e2 := f.2.2.1
  have e3 := f.2.2.2.1
  have p0 : aP h' la = aP h la := f.2.2.2.2.2.2 la (hq 0 (by omega))
  have p10 : aP h' (la + 10) = aP h (la + 10) := f.2.2.2.2.2.2 _ (hq 10 (by omega))
  have p16 : aP h' (la + 16) = aP h (la + 16) := f.2.2.2.2.2.2 _ (hq 16 (by omega))
  unfold LB ob at H ⊢
  rw [e1, e2, e3, p0, p10, p16]
  exact H
theorem LR.fr {wi wj wq : List Nat} {h h' : AH} {la : Nat} {s : Int → Int} (L : LR h la s) (f : Fr wi wj wq h h') (hi : ∀ j, j ≤ 20 → la + j ∉ wi) (hj : ∀ j, j ≤ 20 → la + j ∉ wj) : LR h' la s := by
  have r0 : rd h' la = rd h la := f.row (hi 0 (by omega))
  have r1 := f.row (hi 1 (by omega))
  have r3 := f.row (hi 3 (by omega))
  have r5 := f.row (hi 5 (by omega))
  have r6 := f.row (hi 6 (by omega))
  have r7 := f.row (hi 7 (by omega))
  have r9 := f.row (hi 9 (by omega))
  have r10 := f.row (hi 10 (by omega))
  have r11 := f.row (hi 11 (by omega))
  have r12 := f.row (hi 12 (by omega))
  have r13 := f.row (hi 13 (by omega))
  have r14 := f.row (hi 14 (by omega))
  have r15 := f.row (hi 15 (by omega))
  have r16 := f.row (hi 16 (by omega))
  have r17 := f.row (hi 17 (by omega))
  have r18 := f.row (hi 18 (by omega))
  have r19 := f.row (hi 19 (by omega))
  have r20 := f.row (hi 20 (by omega))
  have j0 : aJ h' la = aJ h la := f.2.2.2.2.2.1 la (hj 0 (by omega))
  have j2 : aJ h' (la + 2) = aJ h (la + 2) := f.2.2.2.2.2.1 _ (hj 2 (by omega))
  unfold LR at L ⊢
  rw [r0, r1, r3, r5, r6, r7, r9, r10, r11, r12, r13, r14, r15, r16, r17, r18, r19, r20, j0, j2]
  exact L
theorem TB.fr {wi wj wq : List Nat} {h h' : AH} {tw : Nat} (B : TB h tw) (f : Fr wi wj wq h h') (hq : aP h' tw 1 = aP h tw 1 ∧ aP h' tw 2 = aP h tw 2) : TB h' tw := by
  have e1 := f.1
  have e2 := f.2.2.1
  have e3 := f.2.2.2.1
  unfold TB ob at B ⊢
  rw [e1, e2, e3, hq.1, hq.2]
  exact B
theorem fr_hJ {h : AH} {a k : Nat} {v : Int64} : Fr [] [a] [] h (hJ h a k v) := ⟨rfl, rfl, rfl, rfl, fun _ _ => rfl, fun b hb => up_n (by simpa using hb), fun _ _ => rfl⟩
theorem fr_hP {h : AH} {a k v : Nat} : Fr [] [] [a] h (hP h a k v) := ⟨rfl, rfl, rfl, rfl, fun _ _ => rfl, fun _ _ => rfl, fun b hb => up_n (by simpa using hb)⟩
theorem aJ_hJ {h : AH} {a k j : Nat} {v : Int64} : aJ (hJ h a k v) a j = if j = k then v else aJ h a j := by
  show va_up (aJ h) a (vp_updL (aJ h a) k v) a j = _
  rw [up_s]
  rfl
theorem aP_hP {h : AH} {a k j : Nat} {v : Nat} : aP (hP h a k v) a j = if j = k then some v else aP h a j := by
  show va_up (aP h) a (va_up (aP h a) k (some v)) a j = _
  rw [up_s]
  rfl
section CTW
variable {h : AH} {la tw cv : Nat} {s t z T : Int → Int} {postV : AH → Prop} {post : AH → Int32 → Prop} {a b c d r x y n sp sq w hh u hr how one : Int}
theorem c_put (H : LB h la) (L : LR h la s) (B : TB h tw) (hp : aP h tw 0 = some la) (hLD : LD tw la) (hD : SD s) (n2 : s 2 ≤ 8) (h1 : 0 ≤ r) (h2 : r < s 2) (h3 : 0 ≤ sp) (h4 : sp < 128)
    (k : ∀ h', Fr [tw + 1] [tw + 2] [] h h' → rd h' (tw + 1) = updT (rd h (tw + 1)) r sp → (∀ j : Nat, aJ h' (tw + 2) j = if j = r.toNat then cvZ (wsp s r sp) (hsp s r sp) (sp % 64) else aJ h (tw + 2) j) → postV h') : wp_X8_put h tw (iI r) (iI sp) postV := by
  unfold LD at hLD
  unfold wp_X8_put
  simp (disch := omega) only [TB.o0 B, TB.p1 B, TB.o1 B, TB.l1 B, TB.p2 B, TB.o2 B, TB.l2 B, hp, -Int.reduceToNat, -Int32.reduceToNatClampNeg, il0, il1, il2, il3, il4, il5, il6, il7, il8, il9, il10, il11, il12, il13, il14, il15, il16, il17, il18, il19, il20, il21, il22, il23, il24, il25, il26, il27, il28, il29, il30, il31, il32, il35, il36, il38, il40, il42, il43, il44, il45, il46, il47, il48, il49, il50, il51, il52, il57, il59, il60, il63, il64, il75, il80, il95, il96, il97, il98, il99, il100, il120, il122, il123, il127, il128, il135, il167, il175, il225, il249, il250, il255, il256, il360, il370, il384, il600, il700, il740, il900, il940, il1024, il1600, il4800, il64000, il125000, il262143, il1000000000, iI_toInt, iI_add, iI_sub, iI_mul, iI_neg, iI_lt, iI_le, iI_eq, iI_n, iI_in, iI_div, iI_mod, iI_shm, iI_and1, iI_and7, iI_and63, iI_shr3, iI_shr6, rd_I, lgc, z_bit, ob, Option.some.injEq, exists_eq_left', exists_eq_left, true_and, and_true, fqI, fqJ, eq_self, true_or, or_true, bP_0, bP_0i, npP, bP_1i, bP_b, not_true_eq_false, not_false_eq_true, false_implies, true_implies, implies_true, Classical.not_not, and_self]
  intro h2' e2
  obtain ⟨f2, r2⟩ := wI (by omega) (by omega) (by omega) e2
  have H2 : LB h2' la := H.fr f2 (fun j _ => by simp)
  have L2 : LR h2' la s := L.fr f2 (fun j hj => by simp; omega) (fun j _ => by simp)
  have eP : aP h2' = aP h := f2.aPe
  have B2 : TB h2' tw := B.fr f2 ⟨by rw [eP], by rw [eP]⟩
  have hp2 : aP h2' tw 0 = some la := by rw [eP]; exact hp
  simp (disch := omega) only [TB.o0 B2, TB.p1 B2, TB.o1 B2, TB.l1 B2, TB.p2 B2, TB.o2 B2, TB.l2 B2, hp2, LB.o0 H2, -Int.reduceToNat, -Int32.reduceToNatClampNeg, il0, il1, il2, il3, il4, il5, il6, il7, il8, il9, il10, il11, il12, il13, il14, il15, il16, il17, il18, il19, il20, il21, il22, il23, il24, il25, il26, il27, il28, il29, il30, il31, il32, il35, il36, il38, il40, il42, il43, il44, il45, il46, il47, il48, il49, il50, il51, il52, il57, il59, il60, il63, il64, il75, il80, il95, il96, il97, il98, il99, il100, il120, il122, il123, il127, il128, il135, il167, il175, il225, il249, il250, il255, il256, il360, il370, il384, il600, il700, il740, il900, il940, il1024, il1600, il4800, il64000, il125000, il262143, il1000000000, iI_toInt, iI_add, iI_sub, iI_mul, iI_neg, iI_lt, iI_le, iI_eq, iI_n, iI_in, iI_div, iI_mod, iI_shm, iI_and1, iI_and7, iI_and63, iI_shr3, iI_shr6, rd_I, lgc, z_bit, ob, Option.some.injEq, exists_eq_left', exists_eq_left, true_and, and_true, fqI, fqJ, eq_self, true_or, or_true, bP_0, bP_0i, npP, bP_1i, bP_b, not_true_eq_false, not_false_eq_true, false_implies, true_implies, implies_true, Classical.not_not, and_self, c_coverAt H2 L2 hD h1 h2 n2 h3 h4]
  intro h7 e7
  have f7 : Fr [] [tw + 2] [] h2' h7 := e7 ▸ fr_hJ
  refine k h7 ((f2.mono (by simp) (by simp) (by simp)).trans (f7.mono (by simp) (by simp) (by simp))) ?_ ?_
  · rw [f7.row (by simp), r2]
  · intro j
    rw [e7, aJ_hJ, f2.2.2.2.2.2.1 _ (by simp)]
theorem c_follow {ot lb : Nat} (B : TB h tw) (Bo : TB h ot) (hne : tw ≠ ot ∧ tw + 1 ≠ ot + 1 ∧ tw + 1 ≠ ot + 2 ∧ tw + 2 ≠ ot + 2 ∧ tw + 2 ≠ ot + 1)
    (k : ∀ h', Fr [tw + 1] [tw + 2] [tw] h h' → aP h' tw 0 = some lb → (∀ j, j ≠ 0 → aP h' tw j = aP h tw j) → (∀ i, 0 ≤ i → i < 8 → rd h' (tw + 1) i = rd h (ot + 1) i) → (∀ i : Int, 0 ≤ i → i < 8 → aJ h' (tw + 2) i.toNat = aJ h (ot + 2) i.toNat) → postV h') : wp_X8_follow h tw lb ot postV := by
  obtain ⟨q0, q1, q2, q3, q4⟩ := hne
  unfold wp_X8_follow
  simp (disch := omega) only [TB.o0 B, TB.p1 B, TB.o1 B, TB.l1 B, TB.p2 B, TB.o2 B, TB.l2 B, -Int.reduceToNat, -Int32.reduceToNatClampNeg, il0, il1, il2, il3, il4, il5, il6, il7, il8, il9, il10, il11, il12, il13, il14, il15, il16, il17, il18, il19, il20, il21, il22, il23, il24, il25, il26, il27, il28, il29, il30, il31, il32, il35, il36, il38, il40, il42, il43, il44, il45, il46, il47, il48, il49, il50, il51, il52, il57, il59, il60, il63, il64, il75, il80, il95, il96, il97, il98, il99, il100, il120, il122, il123, il127, il128, il135, il167, il175, il225, il249, il250, il255, il256, il360, il370, il384, il600, il700, il740, il900, il940, il1024, il1600, il4800, il64000, il125000, il262143, il1000000000, iI_toInt, iI_add, iI_sub, iI_mul, iI_neg, iI_lt, iI_le, iI_eq, iI_n, iI_in, iI_div, iI_mod, iI_shm, iI_and1, iI_and7, iI_and63, iI_shr3, iI_shr6, rd_I, lgc, z_bit, ob, Option.some.injEq, exists_eq_left', exists_eq_left, true_and, and_true, fqI, fqJ, eq_self, true_or, or_true, bP_0, bP_0i, npP, bP_1i, bP_b, not_true_eq_false, not_false_eq_true, false_implies, true_implies, implies_true, Classical.not_not, and_self]
  intro h1 e1
  have f1 : Fr [] [] [tw] h h1 := e1 ▸ fr_hP
  have pt : ∀ j, aP h1 tw j = if j = 0 then some lb else aP h tw j := fun j => by rw [e1, aP_hP]
  have po : aP h1 ot = aP h ot := f1.2.2.2.2.2.2 _ (by simpa using fun q => q0 q.symm)
  have B1 : TB h1 tw := B.fr f1 ⟨by rw [pt, if_neg (by omega)], by rw [pt, if_neg (by omega)]⟩
  have Bo1 : TB h1 ot := Bo.fr f1 ⟨by rw [po], by rw [po]⟩
  have t8 : (iI 8).toNatClampNeg = 8 := rfl
  have t0 : (iI 0).toNatClampNeg = 0 := rfl
  simp (disch := omega) only [TB.o0 B1, TB.p1 B1, TB.o1 B1, TB.l1 B1, TB.p2 B1, TB.o2 B1, TB.l2 B1, TB.o0 Bo1, TB.p1 Bo1, TB.o1 Bo1, TB.l1 Bo1, TB.p2 Bo1, TB.o2 Bo1, TB.l2 Bo1, -Int.reduceToNat, -Int32.reduceToNatClampNeg, il0, il1, il2, il3, il4, il5, il6, il7, il8, il9, il10, il11, il12, il13, il14, il15, il16, il17, il18, il19, il20, il21, il22, il23, il24, il25, il26, il27, il28, il29, il30, il31, il32, il35, il36, il38, il40, il42, il43, il44, il45, il46, il47, il48, il49, il50, il51, il52, il57, il59, il60, il63, il64, il75, il80, il95, il96, il97, il98, il99, il100, il120, il122, il123, il127, il128, il135, il167, il175, il225, il249, il250, il255, il256, il360, il370, il384, il600, il700, il740, il900, il940, il1024, il1600, il4800, il64000, il125000, il262143, il1000000000, t8, t0, iI_toInt, iI_add, iI_sub, iI_mul, iI_neg, iI_lt, iI_le, iI_eq, iI_n, iI_in, iI_div, iI_mod, iI_shm, iI_and1, iI_and7, iI_and63, iI_shr3, iI_shr6, rd_I, lgc, z_bit, ob, Option.some.injEq, exists_eq_left', exists_eq_left, true_and, and_true, fqI, fqJ, eq_self, true_or, or_true, bP_0, bP_0i, npP, bP_1i, bP_b, not_true_eq_false, not_false_eq_true, false_implies, true_implies, implies_true, Classical.not_not, and_self, Nat.zero_add]
  refine ⟨by decide, by decide, by decide, by decide, by decide, ?_⟩
  intro h4 e4
  have f4 : Fr [tw + 1] [] [] h1 h4 := by
    rw [e4]
    exact ⟨rfl, rfl, rfl, rfl, fun b hb => up_n (by simpa using hb), fun _ _ => rfl, fun _ _ => rfl⟩
  have i4 : aI h4 (tw + 1) = va_cpy (aI h1 (ot + 1)) (aI h1 (tw + 1)) 0 0 8 := by rw [e4]; exact up_s _ _ _
  have eP4 : aP h4 = aP h1 := f4.aPe
  have B4 : TB h4 tw := B1.fr f4 ⟨by rw [eP4], by rw [eP4]⟩
  have Bo4 : TB h4 ot := Bo1.fr f4 ⟨by rw [eP4], by rw [eP4]⟩
  simp (disch := omega) only [TB.o0 B4, TB.p1 B4, TB.o1 B4, TB.l1 B4, TB.p2 B4, TB.o2 B4, TB.l2 B4, TB.o0 Bo4, TB.p1 Bo4, TB.o1 Bo4, TB.l1 Bo4, TB.p2 Bo4, TB.o2 Bo4, TB.l2 Bo4, -Int.reduceToNat, -Int32.reduceToNatClampNeg, il0, il1, il2, il3, il4, il5, il6, il7, il8, il9, il10, il11, il12, il13, il14, il15, il16, il17, il18, il19, il20, il21, il22, il23, il24, il25, il26, il27, il28, il29, il30, il31, il32, il35, il36, il38, il40, il42, il43, il44, il45, il46, il47, il48, il49, il50, il51, il52, il57, il59, il60, il63, il64, il75, il80, il95, il96, il97, il98, il99, il100, il120, il122, il123, il127, il128, il135, il167, il175, il225, il249, il250, il255, il256, il360, il370, il384, il600, il700, il740, il900, il940, il1024, il1600, il4800, il64000, il125000, il262143, il1000000000, t8, t0, iI_toInt, iI_add, iI_sub, iI_mul, iI_neg, iI_lt, iI_le, iI_eq, iI_n, iI_in, iI_div, iI_mod, iI_shm, iI_and1, iI_and7, iI_and63, iI_shr3, iI_shr6, rd_I, lgc, z_bit, ob, Option.some.injEq, exists_eq_left', exists_eq_left, true_and, and_true, fqI, fqJ, eq_self, true_or, or_true, bP_0, bP_0i, npP, bP_1i, bP_b, not_true_eq_false, not_false_eq_true, false_implies, true_implies, implies_true, Classical.not_not, and_self, Nat.zero_add]
  refine ⟨by decide, by decide, by decide, by decide, by decide, ?_⟩
  intro h7 e7
  have f7 : Fr [] [tw + 2] [] h4 h7 := by
    rw [e7]
    exact ⟨rfl, rfl, rfl, rfl, fun _ _ => rfl, fun b hb => up_n (by simpa using hb), fun _ _ => rfl⟩
  have j7 : aJ h7 (tw + 2) = va_cpy (aJ h4 (ot + 2)) (aJ h4 (tw + 2)) 0 0 8 := by rw [e7]; exact up_s _ _ _
  have eP7 : aP h7 = aP h4 := f7.aPe
  refine k h7 ((f1.mono (by simp) (by simp) (by simp)).trans ((f4.mono (by simp) (by simp) (by simp)).trans (f7.mono (by simp) (by simp) (by simp)))) (by rw [eP7, eP4, pt, if_pos rfl]) (fun j hj => by rw [eP7, eP4, pt, if_neg hj]) (fun i i1 i2 => ?_) (fun i i1 i2 => ?_)
  · rw [f7.row (by simp)]
    unfold rd
    rw [if_pos i1, if_pos i1, i4, f1.2.2.2.2.1 _ (by simp)]
    unfold va_cpy
    rw [if_pos ⟨by omega, by omega⟩, show 0 + (i.toNat - 0) = i.toNat by omega]
  · rw [j7, f4.2.2.2.2.2.1 _ (by simp), f1.2.2.2.2.2.1 _ (by simp)]
    unfold va_cpy
    rw [if_pos ⟨by omega, by omega⟩, show 0 + (i.toNat - 0) = i.toNat by omega]
end CTW
