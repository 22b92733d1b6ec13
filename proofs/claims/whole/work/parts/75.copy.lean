/-! copies: a lagoon, a scene; fills -/
theorem cp_I {g g' : AH} {d sr n : Nat} (e : g' = hRI g d (va_cpy (aI g sr) (aI g d) 0 0 n)) : Fr [d] [] [] g g' ∧ ∀ i : Int, 0 ≤ i → i < n → rd g' d i = rd g sr i := by
  subst e
  refine ⟨⟨rfl, rfl, rfl, rfl, fun b hb => up_n (by simpa using hb), fun _ _ => rfl, fun _ _ => rfl⟩, fun i i1 i2 => ?_⟩
  unfold rd
  rw [if_pos i1, if_pos i1]
  show (va_up (aI g) d (va_cpy (aI g sr) (aI g d) 0 0 n) d i.toNat).toInt = _
  rw [up_s]
  unfold va_cpy
  rw [if_pos ⟨by omega, by omega⟩, show 0 + (i.toNat - 0) = i.toNat by omega]
theorem cp_J {g g' : AH} {d sr n : Nat} (e : g' = hRJ g d (va_cpy (aJ g sr) (aJ g d) 0 0 n)) : Fr [] [d] [] g g' ∧ ∀ i : Int, 0 ≤ i → i < n → aJ g' d i.toNat = aJ g sr i.toNat := by
  subst e
  refine ⟨⟨rfl, rfl, rfl, rfl, fun _ _ => rfl, fun b hb => up_n (by simpa using hb), fun _ _ => rfl⟩, fun i i1 i2 => ?_⟩
  show va_up (aJ g) d (va_cpy (aJ g sr) (aJ g d) 0 0 n) d i.toNat = _
  rw [up_s]
  unfold va_cpy
  rw [if_pos ⟨by omega, by omega⟩, show 0 + (i.toNat - 0) = i.toNat by omega]
theorem nI_iI (n : Nat) : nI n = iI n := (Int32.ofInt_eq_ofNat (n := n)).symm
section COPY
variable {h h1 h2 h' : AH} {i la lb sc so x y : Nat} {postV : AH → Prop} {a b c d r : Int} {s : Int → Int} {nm : Nat → Int64}
theorem c_copyRopes (H0 : LB h la) (G0 : LB h lb) (hd : la + 20 < lb ∨ lb + 20 < la) (k : ∀ h', Fr [(la + 10), (la + 11), (la + 12), (la + 13), (la + 14), (la + 15)] [] [] h h' → rd h' (la + 10) 0 = rd h (lb + 10) 0 → (∀ i, 0 ≤ i → i < 8 → rd h' (la + 11) i = rd h (lb + 11) i) → (∀ i, 0 ≤ i → i < 8 → rd h' (la + 12) i = rd h (lb + 12) i) → (∀ i, 0 ≤ i → i < 8 → rd h' (la + 13) i = rd h (lb + 13) i) → (∀ i, 0 ≤ i → i < 8 → rd h' (la + 14) i = rd h (lb + 14) i) → (∀ i, 0 ≤ i → i < 8 → rd h' (la + 15) i = rd h (lb + 15) i) → postV h') : wp_X4_copy h (la + 10) (lb + 10) postV := by
  unfold wp_X4_copy
  have A0 : Fr [(la + 10), (la + 11), (la + 12), (la + 13), (la + 14), (la + 15)] [] [] h h := (Fr.refl h).mono (by simp) (by simp) (by simp)
  have nb : ∀ j, j ≤ 20 → lb + j ∉ [(la + 10), (la + 11), (la + 12), (la + 13), (la + 14), (la + 15)] := fun j hj => by first | (simp; done) | (simp; omega)
  have nj : ∀ j, j ≤ 20 → lb + j ∉ [] := fun j hj => by first | (simp; done) | (simp; omega)
  refine ⟨G0.o10, H0.o10, fun g1 e1 => ?_⟩
  rw [fd0] at e1
  obtain ⟨f1, r1⟩ := wI (i := 0) (by omega) (rd_bd h (lb + 10) 0).1 (rd_bd h (lb + 10) 0).2 e1
  have A1 : Fr [(la + 10), (la + 11), (la + 12), (la + 13), (la + 14), (la + 15)] [] [] h g1 := A0.trans (f1.mono (by simp) (by simp) (by simp))
  have H1 : LB g1 la := H0.fr f1 (fun j _ => by simp)
  have G1 : LB g1 lb := G0.fr f1 (fun j _ => by simp)
  refine ⟨G1.o10, (lb + 11), G1.q10_1, H1.o10, (la + 11), H1.q10_1, G1.o11, H1.o11, by decide, by decide, by decide, by rw [G1.l11]; decide, by rw [H1.l11]; decide, fun g2 e2 => ?_⟩
  obtain ⟨f2, r2⟩ := cp_I (n := 8) e2
  have A2 : Fr [(la + 10), (la + 11), (la + 12), (la + 13), (la + 14), (la + 15)] [] [] h g2 := A1.trans (f2.mono (by simp) (by simp) (by simp))
  have H2 : LB g2 la := H1.fr f2 (fun j _ => by simp)
  have G2 : LB g2 lb := G1.fr f2 (fun j _ => by simp)
  refine ⟨G2.o10, (lb + 12), G2.q10_2, H2.o10, (la + 12), H2.q10_2, G2.o12, H2.o12, by decide, by decide, by decide, by rw [G2.l12]; decide, by rw [H2.l12]; decide, fun g3 e3 => ?_⟩
  obtain ⟨f3, r3⟩ := cp_I (n := 8) e3
  have A3 : Fr [(la + 10), (la + 11), (la + 12), (la + 13), (la + 14), (la + 15)] [] [] h g3 := A2.trans (f3.mono (by simp) (by simp) (by simp))
  have H3 : LB g3 la := H2.fr f3 (fun j _ => by simp)
  have G3 : LB g3 lb := G2.fr f3 (fun j _ => by simp)
  refine ⟨G3.o10, (lb + 13), G3.q10_3, H3.o10, (la + 13), H3.q10_3, G3.o13, H3.o13, by decide, by decide, by decide, by rw [G3.l13]; decide, by rw [H3.l13]; decide, fun g4 e4 => ?_⟩
  obtain ⟨f4, r4⟩ := cp_I (n := 8) e4
  have A4 : Fr [(la + 10), (la + 11), (la + 12), (la + 13), (la + 14), (la + 15)] [] [] h g4 := A3.trans (f4.mono (by simp) (by simp) (by simp))
  have H4 : LB g4 la := H3.fr f4 (fun j _ => by simp)
  have G4 : LB g4 lb := G3.fr f4 (fun j _ => by simp)
  refine ⟨G4.o10, (lb + 14), G4.q10_4, H4.o10, (la + 14), H4.q10_4, G4.o14, H4.o14, by decide, by decide, by decide, by rw [G4.l14]; decide, by rw [H4.l14]; decide, fun g5 e5 => ?_⟩
  obtain ⟨f5, r5⟩ := cp_I (n := 8) e5
  have A5 : Fr [(la + 10), (la + 11), (la + 12), (la + 13), (la + 14), (la + 15)] [] [] h g5 := A4.trans (f5.mono (by simp) (by simp) (by simp))
  have H5 : LB g5 la := H4.fr f5 (fun j _ => by simp)
  have G5 : LB g5 lb := G4.fr f5 (fun j _ => by simp)
  refine ⟨G5.o10, (lb + 15), G5.q10_5, H5.o10, (la + 15), H5.q10_5, G5.o15, H5.o15, by decide, by decide, by decide, by rw [G5.l15]; decide, by rw [H5.l15]; decide, fun g6 e6 => ?_⟩
  obtain ⟨f6, r6⟩ := cp_I (n := 8) e6
  have A6 : Fr [(la + 10), (la + 11), (la + 12), (la + 13), (la + 14), (la + 15)] [] [] h g6 := A5.trans (f6.mono (by simp) (by simp) (by simp))
  have H6 : LB g6 la := H5.fr f6 (fun j _ => by simp)
  have G6 : LB g6 lb := G5.fr f6 (fun j _ => by simp)
  have T6 : Fr [(la + 10), (la + 11), (la + 12), (la + 13), (la + 14), (la + 15)] [] [] g6 g6 := (Fr.refl g6).mono (by simp) (by simp) (by simp)
  have U6 := Fr.refl g6
  have U5 : Fr [(la + 15)] [] [] g5 g6 := (f6.mono (by simp) (by simp) (by simp)).trans (U6.mono (by simp) (by simp) (by simp))
  have U4 : Fr [(la + 14), (la + 15)] [] [] g4 g6 := (f5.mono (by simp) (by simp) (by simp)).trans (U5.mono (by simp) (by simp) (by simp))
  have U3 : Fr [(la + 13), (la + 14), (la + 15)] [] [] g3 g6 := (f4.mono (by simp) (by simp) (by simp)).trans (U4.mono (by simp) (by simp) (by simp))
  have U2 : Fr [(la + 12), (la + 13), (la + 14), (la + 15)] [] [] g2 g6 := (f3.mono (by simp) (by simp) (by simp)).trans (U3.mono (by simp) (by simp) (by simp))
  have U1 : Fr [(la + 11), (la + 12), (la + 13), (la + 14), (la + 15)] [] [] g1 g6 := (f2.mono (by simp) (by simp) (by simp)).trans (U2.mono (by simp) (by simp) (by simp))
  have U0 : Fr [(la + 10), (la + 11), (la + 12), (la + 13), (la + 14), (la + 15)] [] [] h g6 := (f1.mono (by simp) (by simp) (by simp)).trans (U1.mono (by simp) (by simp) (by simp))
  exact k g6 A6 (by rw [f6.row (by first | (simp; done) | (simp; omega)), f5.row (by first | (simp; done) | (simp; omega)), f4.row (by first | (simp; done) | (simp; omega)), f3.row (by first | (simp; done) | (simp; omega)), f2.row (by first | (simp; done) | (simp; omega)), r1, updT_s, A0.row (nb 10 (by omega))]) (fun i i1 i2 => by rw [U2.row (by first | (simp; done) | (simp; omega)), r2 i i1 i2, A1.row (nb 11 (by omega))]) (fun i i1 i2 => by rw [U3.row (by first | (simp; done) | (simp; omega)), r3 i i1 i2, A2.row (nb 12 (by omega))]) (fun i i1 i2 => by rw [U4.row (by first | (simp; done) | (simp; omega)), r4 i i1 i2, A3.row (nb 13 (by omega))]) (fun i i1 i2 => by rw [U5.row (by first | (simp; done) | (simp; omega)), r5 i i1 i2, A4.row (nb 14 (by omega))]) (fun i i1 i2 => by rw [U6.row (by first | (simp; done) | (simp; omega)), r6 i i1 i2, A5.row (nb 15 (by omega))])
theorem c_copyWish (H0 : LB h la) (G0 : LB h lb) (hd : la + 20 < lb ∨ lb + 20 < la) (k : ∀ h', Fr [(la + 16), (la + 17), (la + 18), (la + 19), (la + 20)] [] [] h h' → rd h' (la + 16) 0 = rd h (lb + 16) 0 → (∀ i, 0 ≤ i → i < 10 → rd h' (la + 17) i = rd h (lb + 17) i) → (∀ i, 0 ≤ i → i < 10 → rd h' (la + 18) i = rd h (lb + 18) i) → (∀ i, 0 ≤ i → i < 10 → rd h' (la + 19) i = rd h (lb + 19) i) → (∀ i, 0 ≤ i → i < 10 → rd h' (la + 20) i = rd h (lb + 20) i) → postV h') : wp_X10_copy h (la + 16) (lb + 16) postV := by
  unfold wp_X10_copy
  have A0 : Fr [(la + 16), (la + 17), (la + 18), (la + 19), (la + 20)] [] [] h h := (Fr.refl h).mono (by simp) (by simp) (by simp)
  have nb : ∀ j, j ≤ 20 → lb + j ∉ [(la + 16), (la + 17), (la + 18), (la + 19), (la + 20)] := fun j hj => by first | (simp; done) | (simp; omega)
  have nj : ∀ j, j ≤ 20 → lb + j ∉ [] := fun j hj => by first | (simp; done) | (simp; omega)
  refine ⟨G0.o16, H0.o16, fun g1 e1 => ?_⟩
  rw [fd0] at e1
  obtain ⟨f1, r1⟩ := wI (i := 0) (by omega) (rd_bd h (lb + 16) 0).1 (rd_bd h (lb + 16) 0).2 e1
  have A1 : Fr [(la + 16), (la + 17), (la + 18), (la + 19), (la + 20)] [] [] h g1 := A0.trans (f1.mono (by simp) (by simp) (by simp))
  have H1 : LB g1 la := H0.fr f1 (fun j _ => by simp)
  have G1 : LB g1 lb := G0.fr f1 (fun j _ => by simp)
  refine ⟨G1.o16, (lb + 17), G1.q16_1, H1.o16, (la + 17), H1.q16_1, G1.o17, H1.o17, by decide, by decide, by decide, by rw [G1.l17]; decide, by rw [H1.l17]; decide, fun g2 e2 => ?_⟩
  obtain ⟨f2, r2⟩ := cp_I (n := 10) e2
  have A2 : Fr [(la + 16), (la + 17), (la + 18), (la + 19), (la + 20)] [] [] h g2 := A1.trans (f2.mono (by simp) (by simp) (by simp))
  have H2 : LB g2 la := H1.fr f2 (fun j _ => by simp)
  have G2 : LB g2 lb := G1.fr f2 (fun j _ => by simp)
  refine ⟨G2.o16, (lb + 18), G2.q16_2, H2.o16, (la + 18), H2.q16_2, G2.o18, H2.o18, by decide, by decide, by decide, by rw [G2.l18]; decide, by rw [H2.l18]; decide, fun g3 e3 => ?_⟩
  obtain ⟨f3, r3⟩ := cp_I (n := 10) e3
  have A3 : Fr [(la + 16), (la + 17), (la + 18), (la + 19), (la + 20)] [] [] h g3 := A2.trans (f3.mono (by simp) (by simp) (by simp))
  have H3 : LB g3 la := H2.fr f3 (fun j _ => by simp)
  have G3 : LB g3 lb := G2.fr f3 (fun j _ => by simp)
  refine ⟨G3.o16, (lb + 19), G3.q16_3, H3.o16, (la + 19), H3.q16_3, G3.o19, H3.o19, by decide, by decide, by decide, by rw [G3.l19]; decide, by rw [H3.l19]; decide, fun g4 e4 => ?_⟩
  obtain ⟨f4, r4⟩ := cp_I (n := 10) e4
  have A4 : Fr [(la + 16), (la + 17), (la + 18), (la + 19), (la + 20)] [] [] h g4 := A3.trans (f4.mono (by simp) (by simp) (by simp))
  have H4 : LB g4 la := H3.fr f4 (fun j _ => by simp)
  have G4 : LB g4 lb := G3.fr f4 (fun j _ => by simp)
  refine ⟨G4.o16, (lb + 20), G4.q16_4, H4.o16, (la + 20), H4.q16_4, G4.o20, H4.o20, by decide, by decide, by decide, by rw [G4.l20]; decide, by rw [H4.l20]; decide, fun g5 e5 => ?_⟩
  obtain ⟨f5, r5⟩ := cp_I (n := 10) e5
  have A5 : Fr [(la + 16), (la + 17), (la + 18), (la + 19), (la + 20)] [] [] h g5 := A4.trans (f5.mono (by simp) (by simp) (by simp))
  have H5 : LB g5 la := H4.fr f5 (fun j _ => by simp)
  have G5 : LB g5 lb := G4.fr f5 (fun j _ => by simp)
  have T5 : Fr [(la + 16), (la + 17), (la + 18), (la + 19), (la + 20)] [] [] g5 g5 := (Fr.refl g5).mono (by simp) (by simp) (by simp)
  have U5 := Fr.refl g5
  have U4 : Fr [(la + 20)] [] [] g4 g5 := (f5.mono (by simp) (by simp) (by simp)).trans (U5.mono (by simp) (by simp) (by simp))
  have U3 : Fr [(la + 19), (la + 20)] [] [] g3 g5 := (f4.mono (by simp) (by simp) (by simp)).trans (U4.mono (by simp) (by simp) (by simp))
  have U2 : Fr [(la + 18), (la + 19), (la + 20)] [] [] g2 g5 := (f3.mono (by simp) (by simp) (by simp)).trans (U3.mono (by simp) (by simp) (by simp))
  have U1 : Fr [(la + 17), (la + 18), (la + 19), (la + 20)] [] [] g1 g5 := (f2.mono (by simp) (by simp) (by simp)).trans (U2.mono (by simp) (by simp) (by simp))
  have U0 : Fr [(la + 16), (la + 17), (la + 18), (la + 19), (la + 20)] [] [] h g5 := (f1.mono (by simp) (by simp) (by simp)).trans (U1.mono (by simp) (by simp) (by simp))
  exact k g5 A5 (by rw [f5.row (by first | (simp; done) | (simp; omega)), f4.row (by first | (simp; done) | (simp; omega)), f3.row (by first | (simp; done) | (simp; omega)), f2.row (by first | (simp; done) | (simp; omega)), r1, updT_s, A0.row (nb 16 (by omega))]) (fun i i1 i2 => by rw [U2.row (by first | (simp; done) | (simp; omega)), r2 i i1 i2, A1.row (nb 17 (by omega))]) (fun i i1 i2 => by rw [U3.row (by first | (simp; done) | (simp; omega)), r3 i i1 i2, A2.row (nb 18 (by omega))]) (fun i i1 i2 => by rw [U4.row (by first | (simp; done) | (simp; omega)), r4 i i1 i2, A3.row (nb 19 (by omega))]) (fun i i1 i2 => by rw [U5.row (by first | (simp; done) | (simp; omega)), r5 i i1 i2, A4.row (nb 20 (by omega))])
theorem c_copyLag (H0 : LB h la) (G0 : LB h lb) (hd : la + 20 < lb ∨ lb + 20 < la) (k : ∀ h', Fr [la, (la + 1), (la + 3), (la + 4), (la + 5), (la + 6), (la + 7), (la + 8), (la + 9), (la + 10), (la + 11), (la + 12), (la + 13), (la + 14), (la + 15), (la + 16), (la + 17), (la + 18), (la + 19), (la + 20)] [la, (la + 2)] [] h h' → rd h' la 0 = rd h lb 0 → rd h' la 1 = rd h lb 1 → (∀ i, 0 ≤ i → i < 64 → rd h' (la + 1) i = rd h (lb + 1) i) → (∀ i : Int, 0 ≤ i → i < 10 → aJ h' (la + 2) i.toNat = aJ h (lb + 2) i.toNat) → (∀ i, 0 ≤ i → i < 24 → rd h' (la + 3) i = rd h (lb + 3) i) → rd h' la 5 = rd h lb 5 → (∀ i, 0 ≤ i → i < 8 → rd h' (la + 4) i = rd h (lb + 4) i) → (∀ i, 0 ≤ i → i < 8 → rd h' (la + 5) i = rd h (lb + 5) i) → (∀ i, 0 ≤ i → i < 8 → rd h' (la + 6) i = rd h (lb + 6) i) → (∀ i, 0 ≤ i → i < 8 → rd h' (la + 7) i = rd h (lb + 7) i) → (∀ i, 0 ≤ i → i < 8 → rd h' (la + 8) i = rd h (lb + 8) i) → rd h' la 11 = rd h lb 11 → (∀ i, 0 ≤ i → i < 6 → rd h' (la + 9) i = rd h (lb + 9) i) → aJ h' la 13 = aJ h lb 13 → rd h' (la + 10) 0 = rd h (lb + 10) 0 → (∀ i, 0 ≤ i → i < 8 → rd h' (la + 11) i = rd h (lb + 11) i) → (∀ i, 0 ≤ i → i < 8 → rd h' (la + 12) i = rd h (lb + 12) i) → (∀ i, 0 ≤ i → i < 8 → rd h' (la + 13) i = rd h (lb + 13) i) → (∀ i, 0 ≤ i → i < 8 → rd h' (la + 14) i = rd h (lb + 14) i) → (∀ i, 0 ≤ i → i < 8 → rd h' (la + 15) i = rd h (lb + 15) i) → rd h' (la + 16) 0 = rd h (lb + 16) 0 → (∀ i, 0 ≤ i → i < 10 → rd h' (la + 17) i = rd h (lb + 17) i) → (∀ i, 0 ≤ i → i < 10 → rd h' (la + 18) i = rd h (lb + 18) i) → (∀ i, 0 ≤ i → i < 10 → rd h' (la + 19) i = rd h (lb + 19) i) → (∀ i, 0 ≤ i → i < 10 → rd h' (la + 20) i = rd h (lb + 20) i) → postV h') : wp_X1_copy h la lb postV := by
  unfold wp_X1_copy
  have A0 : Fr [la, (la + 1), (la + 3), (la + 4), (la + 5), (la + 6), (la + 7), (la + 8), (la + 9), (la + 10), (la + 11), (la + 12), (la + 13), (la + 14), (la + 15), (la + 16), (la + 17), (la + 18), (la + 19), (la + 20)] [la, (la + 2)] [] h h := (Fr.refl h).mono (by simp) (by simp) (by simp)
  have nb : ∀ j, j ≤ 20 → lb + j ∉ [la, (la + 1), (la + 3), (la + 4), (la + 5), (la + 6), (la + 7), (la + 8), (la + 9), (la + 10), (la + 11), (la + 12), (la + 13), (la + 14), (la + 15), (la + 16), (la + 17), (la + 18), (la + 19), (la + 20)] := fun j hj => by first | (simp; done) | (simp; omega)
  have nj : ∀ j, j ≤ 20 → lb + j ∉ [la, (la + 2)] := fun j hj => by first | (simp; done) | (simp; omega)
  refine ⟨G0.o0, H0.o0, fun g1 e1 => ?_⟩
  rw [fd0] at e1
  obtain ⟨f1, r1⟩ := wI (i := 0) (by omega) (rd_bd h lb 0).1 (rd_bd h lb 0).2 e1
  have A1 : Fr [la, (la + 1), (la + 3), (la + 4), (la + 5), (la + 6), (la + 7), (la + 8), (la + 9), (la + 10), (la + 11), (la + 12), (la + 13), (la + 14), (la + 15), (la + 16), (la + 17), (la + 18), (la + 19), (la + 20)] [la, (la + 2)] [] h g1 := A0.trans (f1.mono (by simp) (by simp) (by simp))
  have H1 : LB g1 la := H0.fr f1 (fun j _ => by simp)
  have G1 : LB g1 lb := G0.fr f1 (fun j _ => by simp)
  refine ⟨G1.o0, H1.o0, fun g2 e2 => ?_⟩
  rw [fd1] at e2
  obtain ⟨f2, r2⟩ := wI (i := 1) (by omega) (rd_bd g1 lb 1).1 (rd_bd g1 lb 1).2 e2
  have A2 : Fr [la, (la + 1), (la + 3), (la + 4), (la + 5), (la + 6), (la + 7), (la + 8), (la + 9), (la + 10), (la + 11), (la + 12), (la + 13), (la + 14), (la + 15), (la + 16), (la + 17), (la + 18), (la + 19), (la + 20)] [la, (la + 2)] [] h g2 := A1.trans (f2.mono (by simp) (by simp) (by simp))
  have H2 : LB g2 la := H1.fr f2 (fun j _ => by simp)
  have G2 : LB g2 lb := G1.fr f2 (fun j _ => by simp)
  refine ⟨G2.o0, (lb + 1), G2.p2, H2.o0, (la + 1), H2.p2, G2.o1, H2.o1, by decide, by decide, by decide, by rw [G2.l1]; decide, by rw [H2.l1]; decide, fun g3 e3 => ?_⟩
  obtain ⟨f3, r3⟩ := cp_I (n := 64) e3
  have A3 : Fr [la, (la + 1), (la + 3), (la + 4), (la + 5), (la + 6), (la + 7), (la + 8), (la + 9), (la + 10), (la + 11), (la + 12), (la + 13), (la + 14), (la + 15), (la + 16), (la + 17), (la + 18), (la + 19), (la + 20)] [la, (la + 2)] [] h g3 := A2.trans (f3.mono (by simp) (by simp) (by simp))
  have H3 : LB g3 la := H2.fr f3 (fun j _ => by simp)
  have G3 : LB g3 lb := G2.fr f3 (fun j _ => by simp)
  refine ⟨G3.o0, (lb + 2), G3.p3, H3.o0, (la + 2), H3.p3, G3.o2, H3.o2, by decide, by decide, by decide, by rw [G3.l2]; decide, by rw [H3.l2]; decide, fun g4 e4 => ?_⟩
  obtain ⟨f4, r4⟩ := cp_J (n := 10) e4
  have A4 : Fr [la, (la + 1), (la + 3), (la + 4), (la + 5), (la + 6), (la + 7), (la + 8), (la + 9), (la + 10), (la + 11), (la + 12), (la + 13), (la + 14), (la + 15), (la + 16), (la + 17), (la + 18), (la + 19), (la + 20)] [la, (la + 2)] [] h g4 := A3.trans (f4.mono (by simp) (by simp) (by simp))
  have H4 : LB g4 la := H3.fr f4 (fun j _ => by simp)
  have G4 : LB g4 lb := G3.fr f4 (fun j _ => by simp)
  refine ⟨G4.o0, (lb + 3), G4.p4, H4.o0, (la + 3), H4.p4, G4.o3, H4.o3, by decide, by decide, by decide, by rw [G4.l3]; decide, by rw [H4.l3]; decide, fun g5 e5 => ?_⟩
  obtain ⟨f5, r5⟩ := cp_I (n := 24) e5
  have A5 : Fr [la, (la + 1), (la + 3), (la + 4), (la + 5), (la + 6), (la + 7), (la + 8), (la + 9), (la + 10), (la + 11), (la + 12), (la + 13), (la + 14), (la + 15), (la + 16), (la + 17), (la + 18), (la + 19), (la + 20)] [la, (la + 2)] [] h g5 := A4.trans (f5.mono (by simp) (by simp) (by simp))
  have H5 : LB g5 la := H4.fr f5 (fun j _ => by simp)
  have G5 : LB g5 lb := G4.fr f5 (fun j _ => by simp)
  refine ⟨G5.o0, H5.o0, fun g6 e6 => ?_⟩
  rw [fd5] at e6
  obtain ⟨f6, r6⟩ := wI (i := 5) (by omega) (rd_bd g5 lb 5).1 (rd_bd g5 lb 5).2 e6
  have A6 : Fr [la, (la + 1), (la + 3), (la + 4), (la + 5), (la + 6), (la + 7), (la + 8), (la + 9), (la + 10), (la + 11), (la + 12), (la + 13), (la + 14), (la + 15), (la + 16), (la + 17), (la + 18), (la + 19), (la + 20)] [la, (la + 2)] [] h g6 := A5.trans (f6.mono (by simp) (by simp) (by simp))
  have H6 : LB g6 la := H5.fr f6 (fun j _ => by simp)
  have G6 : LB g6 lb := G5.fr f6 (fun j _ => by simp)
  refine ⟨G6.o0, (lb + 4), G6.p6, H6.o0, (la + 4), H6.p6, G6.o4, H6.o4, by decide, by decide, by decide, by rw [G6.l4]; decide, by rw [H6.l4]; decide, fun g7 e7 => ?_⟩
  obtain ⟨f7, r7⟩ := cp_I (n := 8) e7
  have A7 : Fr [la, (la + 1), (la + 3), (la + 4), (la + 5), (la + 6), (la + 7), (la + 8), (la + 9), (la + 10), (la + 11), (la + 12), (la + 13), (la + 14), (la + 15), (la + 16), (la + 17), (la + 18), (la + 19), (la + 20)] [la, (la + 2)] [] h g7 := A6.trans (f7.mono (by simp) (by simp) (by simp))
  have H7 : LB g7 la := H6.fr f7 (fun j _ => by simp)
  have G7 : LB g7 lb := G6.fr f7 (fun j _ => by simp)
  refine ⟨G7.o0, (lb + 5), G7.p7, H7.o0, (la + 5), H7.p7, G7.o5, H7.o5, by decide, by decide, by decide, by rw [G7.l5]; decide, by rw [H7.l5]; decide, fun g8 e8 => ?_⟩
  obtain ⟨f8, r8⟩ := cp_I (n := 8) e8
  have A8 : Fr [la, (la + 1), (la + 3), (la + 4), (la + 5), (la + 6), (la + 7), (la + 8), (la + 9), (la + 10), (la + 11), (la + 12), (la + 13), (la + 14), (la + 15), (la + 16), (la + 17), (la + 18), (la + 19), (la + 20)] [la, (la + 2)] [] h g8 := A7.trans (f8.mono (by simp) (by simp) (by simp))
  have H8 : LB g8 la := H7.fr f8 (fun j _ => by simp)
  have G8 : LB g8 lb := G7.fr f8 (fun j _ => by simp)
  refine ⟨G8.o0, (lb + 6), G8.p8, H8.o0, (la + 6), H8.p8, G8.o6, H8.o6, by decide, by decide, by decide, by rw [G8.l6]; decide, by rw [H8.l6]; decide, fun g9 e9 => ?_⟩
  obtain ⟨f9, r9⟩ := cp_I (n := 8) e9
  have A9 : Fr [la, (la + 1), (la + 3), (la + 4), (la + 5), (la + 6), (la + 7), (la + 8), (la + 9), (la + 10), (la + 11), (la + 12), (la + 13), (la + 14), (la + 15), (la + 16), (la + 17), (la + 18), (la + 19), (la + 20)] [la, (la + 2)] [] h g9 := A8.trans (f9.mono (by simp) (by simp) (by simp))
  have H9 : LB g9 la := H8.fr f9 (fun j _ => by simp)
  have G9 : LB g9 lb := G8.fr f9 (fun j _ => by simp)
  refine ⟨G9.o0, (lb + 7), G9.p9, H9.o0, (la + 7), H9.p9, G9.o7, H9.o7, by decide, by decide, by decide, by rw [G9.l7]; decide, by rw [H9.l7]; decide, fun g10 e10 => ?_⟩
  obtain ⟨f10, r10⟩ := cp_I (n := 8) e10
  have A10 : Fr [la, (la + 1), (la + 3), (la + 4), (la + 5), (la + 6), (la + 7), (la + 8), (la + 9), (la + 10), (la + 11), (la + 12), (la + 13), (la + 14), (la + 15), (la + 16), (la + 17), (la + 18), (la + 19), (la + 20)] [la, (la + 2)] [] h g10 := A9.trans (f10.mono (by simp) (by simp) (by simp))
  have H10 : LB g10 la := H9.fr f10 (fun j _ => by simp)
  have G10 : LB g10 lb := G9.fr f10 (fun j _ => by simp)
  refine ⟨G10.o0, (lb + 8), G10.p10, H10.o0, (la + 8), H10.p10, G10.o8, H10.o8, by decide, by decide, by decide, by rw [G10.l8]; decide, by rw [H10.l8]; decide, fun g11 e11 => ?_⟩
  obtain ⟨f11, r11⟩ := cp_I (n := 8) e11
  have A11 : Fr [la, (la + 1), (la + 3), (la + 4), (la + 5), (la + 6), (la + 7), (la + 8), (la + 9), (la + 10), (la + 11), (la + 12), (la + 13), (la + 14), (la + 15), (la + 16), (la + 17), (la + 18), (la + 19), (la + 20)] [la, (la + 2)] [] h g11 := A10.trans (f11.mono (by simp) (by simp) (by simp))
  have H11 : LB g11 la := H10.fr f11 (fun j _ => by simp)
  have G11 : LB g11 lb := G10.fr f11 (fun j _ => by simp)
  refine ⟨G11.o0, H11.o0, fun g12 e12 => ?_⟩
  rw [fd11] at e12
  obtain ⟨f12, r12⟩ := wI (i := 11) (by omega) (rd_bd g11 lb 11).1 (rd_bd g11 lb 11).2 e12
  have A12 : Fr [la, (la + 1), (la + 3), (la + 4), (la + 5), (la + 6), (la + 7), (la + 8), (la + 9), (la + 10), (la + 11), (la + 12), (la + 13), (la + 14), (la + 15), (la + 16), (la + 17), (la + 18), (la + 19), (la + 20)] [la, (la + 2)] [] h g12 := A11.trans (f12.mono (by simp) (by simp) (by simp))
  have H12 : LB g12 la := H11.fr f12 (fun j _ => by simp)
  have G12 : LB g12 lb := G11.fr f12 (fun j _ => by simp)
  refine ⟨G12.o0, (lb + 9), G12.p12, H12.o0, (la + 9), H12.p12, G12.o9, H12.o9, by decide, by decide, by decide, by rw [G12.l9]; decide, by rw [H12.l9]; decide, fun g13 e13 => ?_⟩
  obtain ⟨f13, r13⟩ := cp_I (n := 6) e13
  have A13 : Fr [la, (la + 1), (la + 3), (la + 4), (la + 5), (la + 6), (la + 7), (la + 8), (la + 9), (la + 10), (la + 11), (la + 12), (la + 13), (la + 14), (la + 15), (la + 16), (la + 17), (la + 18), (la + 19), (la + 20)] [la, (la + 2)] [] h g13 := A12.trans (f13.mono (by simp) (by simp) (by simp))
  have H13 : LB g13 la := H12.fr f13 (fun j _ => by simp)
  have G13 : LB g13 lb := G12.fr f13 (fun j _ => by simp)
  refine ⟨G13.o0, H13.o0, fun g14 e14 => ?_⟩
  have f14 : Fr [] [la] [] g13 g14 := e14 ▸ fr_hJ
  have A14 : Fr [la, (la + 1), (la + 3), (la + 4), (la + 5), (la + 6), (la + 7), (la + 8), (la + 9), (la + 10), (la + 11), (la + 12), (la + 13), (la + 14), (la + 15), (la + 16), (la + 17), (la + 18), (la + 19), (la + 20)] [la, (la + 2)] [] h g14 := A13.trans (f14.mono (by simp) (by simp) (by simp))
  have H14 : LB g14 la := H13.fr f14 (fun j _ => by simp)
  have G14 : LB g14 lb := G13.fr f14 (fun j _ => by simp)
  refine ⟨H14.o0, la + 10, H14.p14, G14.o0, lb + 10, G14.p14, H14.o10, c_copyRopes H14 G14 hd fun g15 f15 r15_0 r15_1 r15_2 r15_3 r15_4 r15_5 => ?_⟩
  have A15 : Fr [la, (la + 1), (la + 3), (la + 4), (la + 5), (la + 6), (la + 7), (la + 8), (la + 9), (la + 10), (la + 11), (la + 12), (la + 13), (la + 14), (la + 15), (la + 16), (la + 17), (la + 18), (la + 19), (la + 20)] [la, (la + 2)] [] h g15 := A14.trans (f15.mono (by simp) (by simp) (by simp))
  have H15 : LB g15 la := H14.fr f15 (fun j _ => by simp)
  have G15 : LB g15 lb := G14.fr f15 (fun j _ => by simp)
  refine ⟨H15.o0, la + 16, H15.p15, G15.o0, lb + 16, G15.p15, H15.o16, c_copyWish H15 G15 hd fun g16 f16 r16_0 r16_1 r16_2 r16_3 r16_4 => ?_⟩
  have A16 : Fr [la, (la + 1), (la + 3), (la + 4), (la + 5), (la + 6), (la + 7), (la + 8), (la + 9), (la + 10), (la + 11), (la + 12), (la + 13), (la + 14), (la + 15), (la + 16), (la + 17), (la + 18), (la + 19), (la + 20)] [la, (la + 2)] [] h g16 := A15.trans (f16.mono (by simp) (by simp) (by simp))
  have H16 : LB g16 la := H15.fr f16 (fun j _ => by simp)
  have G16 : LB g16 lb := G15.fr f16 (fun j _ => by simp)
  have T16 : Fr [la, (la + 1), (la + 3), (la + 4), (la + 5), (la + 6), (la + 7), (la + 8), (la + 9), (la + 10), (la + 11), (la + 12), (la + 13), (la + 14), (la + 15), (la + 16), (la + 17), (la + 18), (la + 19), (la + 20)] [la, (la + 2)] [] g16 g16 := (Fr.refl g16).mono (by simp) (by simp) (by simp)
  have U16 := Fr.refl g16
  have U15 : Fr [(la + 16), (la + 17), (la + 18), (la + 19), (la + 20)] [] [] g15 g16 := (f16.mono (by simp) (by simp) (by simp)).trans (U16.mono (by simp) (by simp) (by simp))
  have U14 : Fr [(la + 10), (la + 11), (la + 12), (la + 13), (la + 14), (la + 15), (la + 16), (la + 17), (la + 18), (la + 19), (la + 20)] [] [] g14 g16 := (f15.mono (by simp) (by simp) (by simp)).trans (U15.mono (by simp) (by simp) (by simp))
  have U13 : Fr [(la + 10), (la + 11), (la + 12), (la + 13), (la + 14), (la + 15), (la + 16), (la + 17), (la + 18), (la + 19), (la + 20)] [la] [] g13 g16 := (f14.mono (by simp) (by simp) (by simp)).trans (U14.mono (by simp) (by simp) (by simp))
  have U12 : Fr [(la + 10), (la + 11), (la + 12), (la + 13), (la + 14), (la + 15), (la + 16), (la + 17), (la + 18), (la + 19), (la + 20), (la + 9)] [la] [] g12 g16 := (f13.mono (by simp) (by simp) (by simp)).trans (U13.mono (by simp) (by simp) (by simp))
  have U11 : Fr [(la + 10), (la + 11), (la + 12), (la + 13), (la + 14), (la + 15), (la + 16), (la + 17), (la + 18), (la + 19), (la + 20), (la + 9), la] [la] [] g11 g16 := (f12.mono (by simp) (by simp) (by simp)).trans (U12.mono (by simp) (by simp) (by simp))
  have U10 : Fr [(la + 10), (la + 11), (la + 12), (la + 13), (la + 14), (la + 15), (la + 16), (la + 17), (la + 18), (la + 19), (la + 20), (la + 8), (la + 9), la] [la] [] g10 g16 := (f11.mono (by simp) (by simp) (by simp)).trans (U11.mono (by simp) (by simp) (by simp))
  have U9 : Fr [(la + 10), (la + 11), (la + 12), (la + 13), (la + 14), (la + 15), (la + 16), (la + 17), (la + 18), (la + 19), (la + 20), (la + 7), (la + 8), (la + 9), la] [la] [] g9 g16 := (f10.mono (by simp) (by simp) (by simp)).trans (U10.mono (by simp) (by simp) (by simp))
  have U8 : Fr [(la + 10), (la + 11), (la + 12), (la + 13), (la + 14), (la + 15), (la + 16), (la + 17), (la + 18), (la + 19), (la + 20), (la + 6), (la + 7), (la + 8), (la + 9), la] [la] [] g8 g16 := (f9.mono (by simp) (by simp) (by simp)).trans (U9.mono (by simp) (by simp) (by simp))
  have U7 : Fr [(la + 10), (la + 11), (la + 12), (la + 13), (la + 14), (la + 15), (la + 16), (la + 17), (la + 18), (la + 19), (la + 20), (la + 5), (la + 6), (la + 7), (la + 8), (la + 9), la] [la] [] g7 g16 := (f8.mono (by simp) (by simp) (by simp)).trans (U8.mono (by simp) (by simp) (by simp))
  have U6 : Fr [(la + 10), (la + 11), (la + 12), (la + 13), (la + 14), (la + 15), (la + 16), (la + 17), (la + 18), (la + 19), (la + 20), (la + 4), (la + 5), (la + 6), (la + 7), (la + 8), (la + 9), la] [la] [] g6 g16 := (f7.mono (by simp) (by simp) (by simp)).trans (U7.mono (by simp) (by simp) (by simp))
  have U5 : Fr [(la + 10), (la + 11), (la + 12), (la + 13), (la + 14), (la + 15), (la + 16), (la + 17), (la + 18), (la + 19), (la + 20), (la + 4), (la + 5), (la + 6), (la + 7), (la + 8), (la + 9), la] [la] [] g5 g16 := (f6.mono (by simp) (by simp) (by simp)).trans (U6.mono (by simp) (by simp) (by simp))
  have U4 : Fr [(la + 10), (la + 11), (la + 12), (la + 13), (la + 14), (la + 15), (la + 16), (la + 17), (la + 18), (la + 19), (la + 20), (la + 3), (la + 4), (la + 5), (la + 6), (la + 7), (la + 8), (la + 9), la] [la] [] g4 g16 := (f5.mono (by simp) (by simp) (by simp)).trans (U5.mono (by simp) (by simp) (by simp))
  have U3 : Fr [(la + 10), (la + 11), (la + 12), (la + 13), (la + 14), (la + 15), (la + 16), (la + 17), (la + 18), (la + 19), (la + 20), (la + 3), (la + 4), (la + 5), (la + 6), (la + 7), (la + 8), (la + 9), la] [(la + 2), la] [] g3 g16 := (f4.mono (by simp) (by simp) (by simp)).trans (U4.mono (by simp) (by simp) (by simp))
  have U2 : Fr [(la + 1), (la + 10), (la + 11), (la + 12), (la + 13), (la + 14), (la + 15), (la + 16), (la + 17), (la + 18), (la + 19), (la + 20), (la + 3), (la + 4), (la + 5), (la + 6), (la + 7), (la + 8), (la + 9), la] [(la + 2), la] [] g2 g16 := (f3.mono (by simp) (by simp) (by simp)).trans (U3.mono (by simp) (by simp) (by simp))
  have U1 : Fr [(la + 1), (la + 10), (la + 11), (la + 12), (la + 13), (la + 14), (la + 15), (la + 16), (la + 17), (la + 18), (la + 19), (la + 20), (la + 3), (la + 4), (la + 5), (la + 6), (la + 7), (la + 8), (la + 9), la] [(la + 2), la] [] g1 g16 := (f2.mono (by simp) (by simp) (by simp)).trans (U2.mono (by simp) (by simp) (by simp))
  have U0 : Fr [(la + 1), (la + 10), (la + 11), (la + 12), (la + 13), (la + 14), (la + 15), (la + 16), (la + 17), (la + 18), (la + 19), (la + 20), (la + 3), (la + 4), (la + 5), (la + 6), (la + 7), (la + 8), (la + 9), la] [(la + 2), la] [] h g16 := (f1.mono (by simp) (by simp) (by simp)).trans (U1.mono (by simp) (by simp) (by simp))
  exact k g16 A16 (by rw [f16.row (by first | (simp; done) | (simp; omega)), f15.row (by first | (simp; done) | (simp; omega)), f14.row (by simp), f13.row (by first | (simp; done) | (simp; omega)), r12, updT_n (by omega), f11.row (by first | (simp; done) | (simp; omega)), f10.row (by first | (simp; done) | (simp; omega)), f9.row (by first | (simp; done) | (simp; omega)), f8.row (by first | (simp; done) | (simp; omega)), f7.row (by first | (simp; done) | (simp; omega)), r6, updT_n (by omega), f5.row (by first | (simp; done) | (simp; omega)), f4.row (by simp), f3.row (by first | (simp; done) | (simp; omega)), r2, updT_n (by omega), r1, updT_s, A0.row (show lb ∉ _ from nb 0 (by omega))]) (by rw [f16.row (by first | (simp; done) | (simp; omega)), f15.row (by first | (simp; done) | (simp; omega)), f14.row (by simp), f13.row (by first | (simp; done) | (simp; omega)), r12, updT_n (by omega), f11.row (by first | (simp; done) | (simp; omega)), f10.row (by first | (simp; done) | (simp; omega)), f9.row (by first | (simp; done) | (simp; omega)), f8.row (by first | (simp; done) | (simp; omega)), f7.row (by first | (simp; done) | (simp; omega)), r6, updT_n (by omega), f5.row (by first | (simp; done) | (simp; omega)), f4.row (by simp), f3.row (by first | (simp; done) | (simp; omega)), r2, updT_s, A1.row (show lb ∉ _ from nb 0 (by omega))]) (fun i i1 i2 => by rw [U3.row (by first | (simp; done) | (simp; omega)), r3 i i1 i2, A2.row (nb 1 (by omega))]) (fun i i1 i2 => by rw [U4.2.2.2.2.2.1 _ (by first | (simp; done) | (simp; omega)), r4 i i1 i2, A3.2.2.2.2.2.1 _ (nj 2 (by omega))]) (fun i i1 i2 => by rw [U5.row (by first | (simp; done) | (simp; omega)), r5 i i1 i2, A4.row (nb 3 (by omega))]) (by rw [f16.row (by first | (simp; done) | (simp; omega)), f15.row (by first | (simp; done) | (simp; omega)), f14.row (by simp), f13.row (by first | (simp; done) | (simp; omega)), r12, updT_n (by omega), f11.row (by first | (simp; done) | (simp; omega)), f10.row (by first | (simp; done) | (simp; omega)), f9.row (by first | (simp; done) | (simp; omega)), f8.row (by first | (simp; done) | (simp; omega)), f7.row (by first | (simp; done) | (simp; omega)), r6, updT_s, A5.row (show lb ∉ _ from nb 0 (by omega))]) (fun i i1 i2 => by rw [U7.row (by first | (simp; done) | (simp; omega)), r7 i i1 i2, A6.row (nb 4 (by omega))]) (fun i i1 i2 => by rw [U8.row (by first | (simp; done) | (simp; omega)), r8 i i1 i2, A7.row (nb 5 (by omega))]) (fun i i1 i2 => by rw [U9.row (by first | (simp; done) | (simp; omega)), r9 i i1 i2, A8.row (nb 6 (by omega))]) (fun i i1 i2 => by rw [U10.row (by first | (simp; done) | (simp; omega)), r10 i i1 i2, A9.row (nb 7 (by omega))]) (fun i i1 i2 => by rw [U11.row (by first | (simp; done) | (simp; omega)), r11 i i1 i2, A10.row (nb 8 (by omega))]) (by rw [f16.row (by first | (simp; done) | (simp; omega)), f15.row (by first | (simp; done) | (simp; omega)), f14.row (by simp), f13.row (by first | (simp; done) | (simp; omega)), r12, updT_s, A11.row (show lb ∉ _ from nb 0 (by omega))]) (fun i i1 i2 => by rw [U13.row (by first | (simp; done) | (simp; omega)), r13 i i1 i2, A12.row (nb 9 (by omega))]) (by rw [U14.2.2.2.2.2.1 _ (by first | (simp; done) | (simp; omega)), e14, aJ_hJ, if_pos rfl, A13.2.2.2.2.2.1 _ (show lb ∉ _ from nj 0 (by omega))]) (by rw [U15.row (by first | (simp; done) | (simp; omega)), r15_0, A14.row (nb 10 (by omega))]) (fun i i1 i2 => by rw [U15.row (by first | (simp; done) | (simp; omega)), r15_1 i i1 i2, A14.row (nb 11 (by omega))]) (fun i i1 i2 => by rw [U15.row (by first | (simp; done) | (simp; omega)), r15_2 i i1 i2, A14.row (nb 12 (by omega))]) (fun i i1 i2 => by rw [U15.row (by first | (simp; done) | (simp; omega)), r15_3 i i1 i2, A14.row (nb 13 (by omega))]) (fun i i1 i2 => by rw [U15.row (by first | (simp; done) | (simp; omega)), r15_4 i i1 i2, A14.row (nb 14 (by omega))]) (fun i i1 i2 => by rw [U15.row (by first | (simp; done) | (simp; omega)), r15_5 i i1 i2, A14.row (nb 15 (by omega))]) (by rw [U16.row (by first | (simp; done) | (simp; omega)), r16_0, A15.row (nb 16 (by omega))]) (fun i i1 i2 => by rw [U16.row (by first | (simp; done) | (simp; omega)), r16_1 i i1 i2, A15.row (nb 17 (by omega))]) (fun i i1 i2 => by rw [U16.row (by first | (simp; done) | (simp; omega)), r16_2 i i1 i2, A15.row (nb 18 (by omega))]) (fun i i1 i2 => by rw [U16.row (by first | (simp; done) | (simp; omega)), r16_3 i i1 i2, A15.row (nb 19 (by omega))]) (fun i i1 i2 => by rw [U16.row (by first | (simp; done) | (simp; omega)), r16_4 i i1 i2, A15.row (nb 20 (by omega))])
theorem c_fillI {L : Nat} {v : Int} (O : ob h x 13) (l : aL h x = L) (hL : L ≤ 1000000) (hv : -2147483648 ≤ v ∧ v < 2147483648) (k : ∀ h', Fr [x] [] [] h h' → (∀ j : Int, 0 ≤ j → j < L → rd h' x j = v) → (∀ j : Int, (L : Int) ≤ j → rd h' x j = rd h x j) → postV h') : wp_J7_fill_53178 h x (iI v) postV := by
  unfold wp_J7_fill_53178
  refine ⟨⟨Or.inr (Or.inl O.1), O.2⟩, fun iv ev => ?_⟩
  rw [ev, l, nI_iI]
  refine lf_for (W := fun n (g : AH) j => wl_J7_fill_53178_5 postV n g x (iI v) (iI j) (iI L)) (lo := 0) (hi := (L : Int)) (fun j g => Fr [x] [] [] h g ∧ (∀ i, 0 ≤ i → i < j → rd g x i = v) ∧ (∀ i, j ≤ i → rd g x i = rd h x i)) (by omega) ?_ ?_ h ⟨(Fr.refl h).mono (by simp) (by simp) (by simp), fun i i1 i2 => by omega, fun i _ => rfl⟩
  · intro m g j j1 j2 hg kk
    obtain ⟨fg, t1, t2⟩ := hg
    have Og : ob g x 13 := fg.gr.ob O
    have lg : aL g x = L := by rw [fg.2.2.2.1]; exact l
    show wb_J7_fill_53178_5 (wl_J7_fill_53178_5 postV m) g x (iI v) (iI j) (iI L) postV
    unfold wb_J7_fill_53178_5
    simp (disch := omega) only [Og, lg, -Int.reduceToNat, -Int32.reduceToNatClampNeg, il0, il1, il2, il3, il4, il5, il6, il7, il8, il9, il10, il11, il12, il13, il14, il15, il16, il17, il18, il19, il20, il21, il22, il23, il24, il25, il26, il27, il28, il29, il30, il31, il32, il35, il36, il38, il40, il42, il43, il44, il45, il46, il47, il48, il49, il50, il51, il52, il57, il59, il60, il63, il64, il75, il80, il95, il96, il97, il98, il99, il100, il120, il122, il123, il127, il128, il135, il167, il175, il225, il249, il250, il255, il256, il360, il370, il384, il600, il700, il740, il900, il940, il1024, il1600, il4800, il64000, il125000, il262143, il1000000000, iI_toInt, iI_add, iI_sub, iI_mul, iI_neg, iI_lt, iI_le, iI_eq, iI_n, iI_in, iI_div, iI_mod, iI_shm, iI_and1, iI_and7, iI_and63, iI_shr3, iI_shr6, rd_I, ob, Option.some.injEq, exists_eq_left', exists_eq_left, true_and, and_true, fqI, fqJ, eq_self, true_or, or_true, bP_0, bP_0i, npP, bP_1i, bP_b, not_true_eq_false, not_false_eq_true, false_implies, true_implies, implies_true, Classical.not_not, and_self, cP, cP', ite_n, ite_T, ite_F, ite_t, ite_f]
    intro g2 e2
    obtain ⟨f2, r2⟩ := wI (by omega) hv.1 hv.2 e2
    refine kk g2 ⟨fg.trans f2, fun i i1 i2 => ?_, fun i i1 => ?_⟩
    · rw [r2]
      by_cases c : i = j
      · subst c; rw [updT_s]
      · rw [updT_n c, t1 i i1 (by omega)]
    · rw [r2, updT_n (by omega), t2 i (by omega)]
  · intro m g hg
    show wb_J7_fill_53178_5 (wl_J7_fill_53178_5 postV m) g x (iI v) (iI L) (iI L) postV
    unfold wb_J7_fill_53178_5
    simp (disch := omega) only [-Int.reduceToNat, -Int32.reduceToNatClampNeg, il0, il1, il2, il3, il4, il5, il6, il7, il8, il9, il10, il11, il12, il13, il14, il15, il16, il17, il18, il19, il20, il21, il22, il23, il24, il25, il26, il27, il28, il29, il30, il31, il32, il35, il36, il38, il40, il42, il43, il44, il45, il46, il47, il48, il49, il50, il51, il52, il57, il59, il60, il63, il64, il75, il80, il95, il96, il97, il98, il99, il100, il120, il122, il123, il127, il128, il135, il167, il175, il225, il249, il250, il255, il256, il360, il370, il384, il600, il700, il740, il900, il940, il1024, il1600, il4800, il64000, il125000, il262143, il1000000000, iI_toInt, iI_add, iI_sub, iI_mul, iI_neg, iI_lt, iI_le, iI_eq, iI_n, iI_in, iI_div, iI_mod, iI_shm, iI_and1, iI_and7, iI_and63, iI_shr3, iI_shr6, rd_I, ob, Option.some.injEq, exists_eq_left', exists_eq_left, true_and, and_true, fqI, fqJ, eq_self, true_or, or_true, bP_0, bP_0i, npP, bP_1i, bP_b, not_true_eq_false, not_false_eq_true, false_implies, true_implies, implies_true, Classical.not_not, and_self, cP, cP', ite_n, ite_T, ite_F, ite_t, ite_f]
    exact k g hg.1 hg.2.1 hg.2.2
theorem c_fillJ {L : Nat} {v : Int64} (O : ob h x 14) (l : aL h x = L) (hL : L ≤ 1000000) (k : ∀ h', Fr [] [x] [] h h' → (∀ j : Nat, j < L → aJ h' x j = v) → postV h') : wp_J7_fill_d0a16 h x v postV := by
  unfold wp_J7_fill_d0a16
  refine ⟨⟨Or.inr (Or.inr O.1), O.2⟩, fun iv ev => ?_⟩
  rw [ev, l, nI_iI]
  refine lf_for (W := fun n (g : AH) j => wl_J7_fill_d0a16_6 postV n g x v (iI j) (iI L)) (lo := 0) (hi := (L : Int)) (fun j g => Fr [] [x] [] h g ∧ (∀ i : Nat, (i : Int) < j → aJ g x i = v)) (by omega) ?_ ?_ h ⟨(Fr.refl h).mono (by simp) (by simp) (by simp), fun i i1 => by omega⟩
  · intro m g j j1 j2 hg kk
    obtain ⟨fg, t1⟩ := hg
    have Og : ob g x 14 := fg.gr.ob O
    have lg : aL g x = L := by rw [fg.2.2.2.1]; exact l
    show wb_J7_fill_d0a16_6 (wl_J7_fill_d0a16_6 postV m) g x v (iI j) (iI L) postV
    unfold wb_J7_fill_d0a16_6
    simp (disch := omega) only [Og, lg, -Int.reduceToNat, -Int32.reduceToNatClampNeg, il0, il1, il2, il3, il4, il5, il6, il7, il8, il9, il10, il11, il12, il13, il14, il15, il16, il17, il18, il19, il20, il21, il22, il23, il24, il25, il26, il27, il28, il29, il30, il31, il32, il35, il36, il38, il40, il42, il43, il44, il45, il46, il47, il48, il49, il50, il51, il52, il57, il59, il60, il63, il64, il75, il80, il95, il96, il97, il98, il99, il100, il120, il122, il123, il127, il128, il135, il167, il175, il225, il249, il250, il255, il256, il360, il370, il384, il600, il700, il740, il900, il940, il1024, il1600, il4800, il64000, il125000, il262143, il1000000000, iI_toInt, iI_add, iI_sub, iI_mul, iI_neg, iI_lt, iI_le, iI_eq, iI_n, iI_in, iI_div, iI_mod, iI_shm, iI_and1, iI_and7, iI_and63, iI_shr3, iI_shr6, rd_I, ob, Option.some.injEq, exists_eq_left', exists_eq_left, true_and, and_true, fqI, fqJ, eq_self, true_or, or_true, bP_0, bP_0i, npP, bP_1i, bP_b, not_true_eq_false, not_false_eq_true, false_implies, true_implies, implies_true, Classical.not_not, and_self, cP, cP', ite_n, ite_T, ite_F, ite_t, ite_f]
    intro g2 e2
    have f2 : Fr [] [x] [] g g2 := e2 ▸ fr_hJ
    refine kk g2 ⟨fg.trans f2, fun i i1 => ?_⟩
    rw [e2, aJ_hJ]
    by_cases c : i = j.toNat
    · rw [if_pos c]
    · rw [if_neg c, t1 i (by omega)]
  · intro m g hg
    show wb_J7_fill_d0a16_6 (wl_J7_fill_d0a16_6 postV m) g x v (iI L) (iI L) postV
    unfold wb_J7_fill_d0a16_6
    simp (disch := omega) only [-Int.reduceToNat, -Int32.reduceToNatClampNeg, il0, il1, il2, il3, il4, il5, il6, il7, il8, il9, il10, il11, il12, il13, il14, il15, il16, il17, il18, il19, il20, il21, il22, il23, il24, il25, il26, il27, il28, il29, il30, il31, il32, il35, il36, il38, il40, il42, il43, il44, il45, il46, il47, il48, il49, il50, il51, il52, il57, il59, il60, il63, il64, il75, il80, il95, il96, il97, il98, il99, il100, il120, il122, il123, il127, il128, il135, il167, il175, il225, il249, il250, il255, il256, il360, il370, il384, il600, il700, il740, il900, il940, il1024, il1600, il4800, il64000, il125000, il262143, il1000000000, iI_toInt, iI_add, iI_sub, iI_mul, iI_neg, iI_lt, iI_le, iI_eq, iI_n, iI_in, iI_div, iI_mod, iI_shm, iI_and1, iI_and7, iI_and63, iI_shr3, iI_shr6, rd_I, ob, Option.some.injEq, exists_eq_left', exists_eq_left, true_and, and_true, fqI, fqJ, eq_self, true_or, or_true, bP_0, bP_0i, npP, bP_1i, bP_b, not_true_eq_false, not_false_eq_true, false_implies, true_implies, implies_true, Classical.not_not, and_self, cP, cP', ite_n, ite_T, ite_F, ite_t, ite_f]
    exact k g hg.1 fun j hj => hg.2 j (by omega)
theorem mnI {a b : Int} (h1 : -2147483648 ≤ a) (h2 : a < 2147483648) (h3 : -2147483648 ≤ b) (h4 : b < 2147483648) : mn (iI a) (iI b) = iI (if b < a then b else a) := by
  unfold mn
  by_cases c : b < a
  · rw [if_pos ((iI_lt h3 h4 h1 h2).mpr c), if_pos c]
  · rw [if_neg (fun q => c ((iI_lt h3 h4 h1 h2).mp q)), if_neg c]
theorem c_setActs (O : ob h sc 5) (p3 : aP h sc 3 = some (sc + 25)) (o25 : ob h (sc + 25) 13) (l25 : aL h (sc + 25) = 60) (p4 : aP h sc 4 = some (sc + 26)) (o26 : ob h (sc + 26) 13) (l26 : aL h (sc + 26) = 60) (ox : ob h x 13) (lx : aL h x = 60) (oy : ob h y 13) (ly : aL h y = 60) (hx : x ≠ sc ∧ x ≠ sc + 25 ∧ x ≠ sc + 26 ∧ y ≠ sc ∧ y ≠ sc + 25 ∧ y ≠ sc + 26) (ha : 0 ≤ a ∧ a ≤ 60)
    (k : ∀ h', Fr [sc, sc + 25, sc + 26] [] [] h h' → rd h' sc = updT (rd h sc) 2 a → (∀ i, 0 ≤ i → i < a → rd h' (sc + 25) i = rd h x i ∧ rd h' (sc + 26) i = rd h y i) → postV h') : wp_X5_setActs h sc (iI a) x y postV := by
  unfold wp_X5_setActs
  refine ⟨O, fun h1 e1 => ?_⟩
  rw [il60, mnI (by omega) (by omega) (by omega) (by omega), if_neg (by omega)] at e1
  obtain ⟨f1, r1⟩ := wI (i := 2) (by omega) (by omega) (by omega) e1
  refine lf_for (W := fun n (g : AH) j => wl_X5_setActs_13 postV n g sc x y (iI j)) (lo := 0) (hi := a) (fun j g => Fr [sc + 25, sc + 26] [] [] h1 g ∧ ∀ i, 0 ≤ i → i < j → rd g (sc + 25) i = rd h x i ∧ rd g (sc + 26) i = rd h y i) (by omega) ?_ ?_ h1 ⟨(Fr.refl h1).mono (by simp) (by simp) (by simp), fun i i1 i2 => by omega⟩
  · intro m g j j1 j2 hg kk
    obtain ⟨fg, t1⟩ := hg
    have F : Fr [sc, sc + 25, sc + 26] [] [] h g := (f1.mono (by simp) (by simp) (by simp)).trans (fg.mono (by simp) (by simp) (by simp))
    have a2 : rd g sc 2 = a := by rw [fg.row (by simp), r1, updT_s]
    have P : ∀ (g' : AH), Fr [sc, sc + 25, sc + 26] [] [] h g' → ob g' sc 5 ∧ aP g' sc 3 = some (sc + 25) ∧ aP g' sc 4 = some (sc + 26) ∧ ob g' (sc + 25) 13 ∧ ob g' (sc + 26) 13 ∧ aL g' (sc + 25) = 60 ∧ aL g' (sc + 26) = 60 ∧ ob g' x 13 ∧ ob g' y 13 ∧ aL g' x = 60 ∧ aL g' y = 60 ∧ rd g' x = rd h x ∧ rd g' y = rd h y := fun g' f' => by
      have e := f'.gr
      exact ⟨e.ob O, by rw [f'.aPe]; exact p3, by rw [f'.aPe]; exact p4, e.ob o25, e.ob o26, by rw [f'.2.2.2.1]; exact l25, by rw [f'.2.2.2.1]; exact l26, e.ob ox, e.ob oy, by rw [f'.2.2.2.1]; exact lx, by rw [f'.2.2.2.1]; exact ly, f'.row (by simp; omega), f'.row (by simp; omega)⟩
    obtain ⟨u1, u2, u3, u4, u5, u6, u7, u8, u9, u10, u11, u12, u13⟩ := P g F
    have bx := rd_bd h x j
    have bY := rd_bd h y j
    show wb_X5_setActs_13 (wl_X5_setActs_13 postV m) g sc x y (iI j) postV
    unfold wb_X5_setActs_13
    simp (disch := omega) only [u1, u2, u3, u4, u5, u6, u7, u8, u9, u10, u11, u12, u13, fd0, fd1, fd2, fd3, fd4, fd5, fd6, fd7, fd8, fd9, fd10, fd11, fd12, fd13, fd14, fd15, fd16, fd17, fd18, fd19, fd20, fd21, fd22, fd23, fd24, fd25, fd26, fd27, fd28, fd29, fd30, fd31, fd32, fd33, fd34, fd35, fd36, fd37, fd38, fd39, fd40, fd41, fd42, fd43, fd44, fd45, fd46, fd47, fd48, fd49, fd50, fd51, fd52, a2, -Int.reduceToNat, -Int32.reduceToNatClampNeg, il0, il1, il2, il3, il4, il5, il6, il7, il8, il9, il10, il11, il12, il13, il14, il15, il16, il17, il18, il19, il20, il21, il22, il23, il24, il25, il26, il27, il28, il29, il30, il31, il32, il35, il36, il38, il40, il42, il43, il44, il45, il46, il47, il48, il49, il50, il51, il52, il57, il59, il60, il63, il64, il75, il80, il95, il96, il97, il98, il99, il100, il120, il122, il123, il127, il128, il135, il167, il175, il225, il249, il250, il255, il256, il360, il370, il384, il600, il700, il740, il900, il940, il1024, il1600, il4800, il64000, il125000, il262143, il1000000000, iI_toInt, iI_add, iI_sub, iI_mul, iI_neg, iI_lt, iI_le, iI_eq, iI_n, iI_in, iI_div, iI_mod, iI_shm, iI_and1, iI_and7, iI_and63, iI_shr3, iI_shr6, rd_I, ob, Option.some.injEq, exists_eq_left', exists_eq_left, true_and, and_true, fqI, fqJ, eq_self, true_or, or_true, bP_0, bP_0i, npP, bP_1i, bP_b, not_true_eq_false, not_false_eq_true, false_implies, true_implies, implies_true, Classical.not_not, and_self, cP, cP', ite_n, ite_T, ite_F, ite_t, ite_f]
    intro g2 e2
    obtain ⟨f2, r2⟩ := wI (by omega) bx.1 bx.2 e2
    obtain ⟨w1, w2, w3, w4, w5, w6, w7, w8, w9, w10, w11, w12, w13⟩ := P g2 (F.trans (f2.mono (by simp) (by simp) (by simp)))
    simp (disch := omega) only [w1, w2, w3, w4, w5, w6, w7, w8, w9, w10, w11, w12, w13, -Int.reduceToNat, -Int32.reduceToNatClampNeg, il0, il1, il2, il3, il4, il5, il6, il7, il8, il9, il10, il11, il12, il13, il14, il15, il16, il17, il18, il19, il20, il21, il22, il23, il24, il25, il26, il27, il28, il29, il30, il31, il32, il35, il36, il38, il40, il42, il43, il44, il45, il46, il47, il48, il49, il50, il51, il52, il57, il59, il60, il63, il64, il75, il80, il95, il96, il97, il98, il99, il100, il120, il122, il123, il127, il128, il135, il167, il175, il225, il249, il250, il255, il256, il360, il370, il384, il600, il700, il740, il900, il940, il1024, il1600, il4800, il64000, il125000, il262143, il1000000000, iI_toInt, iI_add, iI_sub, iI_mul, iI_neg, iI_lt, iI_le, iI_eq, iI_n, iI_in, iI_div, iI_mod, iI_shm, iI_and1, iI_and7, iI_and63, iI_shr3, iI_shr6, rd_I, ob, Option.some.injEq, exists_eq_left', exists_eq_left, true_and, and_true, fqI, fqJ, eq_self, true_or, or_true, bP_0, bP_0i, npP, bP_1i, bP_b, not_true_eq_false, not_false_eq_true, false_implies, true_implies, implies_true, Classical.not_not, and_self, cP, cP', ite_n, ite_T, ite_F, ite_t, ite_f]
    intro g3 e3
    obtain ⟨f3, r3⟩ := wI (by omega) bY.1 bY.2 e3
    refine kk g3 ⟨fg.trans ((f2.mono (by simp) (by simp) (by simp)).trans (f3.mono (by simp) (by simp) (by simp))), fun i i1 i2 => ?_⟩
    have e25 : rd g3 (sc + 25) = updT (rd g (sc + 25)) j (rd h x j) := by rw [f3.row (by simp), r2]
    have e26 : rd g3 (sc + 26) = updT (rd g (sc + 26)) j (rd h y j) := by rw [r3, f2.row (by simp)]
    rw [e25, e26]
    by_cases c : i = j
    · subst c; rw [updT_s, updT_s]; exact ⟨rfl, rfl⟩
    · rw [updT_n c, updT_n c]; exact t1 i i1 (by omega)
  · intro m g hg
    obtain ⟨fg, t1⟩ := hg
    have a2 : rd g sc 2 = a := by rw [fg.row (by simp), r1, updT_s]
    have Og : ob g sc 5 := fg.gr.ob (f1.gr.ob O)
    show wb_X5_setActs_13 (wl_X5_setActs_13 postV m) g sc x y (iI a) postV
    unfold wb_X5_setActs_13
    simp (disch := omega) only [Og, fd0, fd1, fd2, fd3, fd4, fd5, fd6, fd7, fd8, fd9, fd10, fd11, fd12, fd13, fd14, fd15, fd16, fd17, fd18, fd19, fd20, fd21, fd22, fd23, fd24, fd25, fd26, fd27, fd28, fd29, fd30, fd31, fd32, fd33, fd34, fd35, fd36, fd37, fd38, fd39, fd40, fd41, fd42, fd43, fd44, fd45, fd46, fd47, fd48, fd49, fd50, fd51, fd52, a2, -Int.reduceToNat, -Int32.reduceToNatClampNeg, il0, il1, il2, il3, il4, il5, il6, il7, il8, il9, il10, il11, il12, il13, il14, il15, il16, il17, il18, il19, il20, il21, il22, il23, il24, il25, il26, il27, il28, il29, il30, il31, il32, il35, il36, il38, il40, il42, il43, il44, il45, il46, il47, il48, il49, il50, il51, il52, il57, il59, il60, il63, il64, il75, il80, il95, il96, il97, il98, il99, il100, il120, il122, il123, il127, il128, il135, il167, il175, il225, il249, il250, il255, il256, il360, il370, il384, il600, il700, il740, il900, il940, il1024, il1600, il4800, il64000, il125000, il262143, il1000000000, iI_toInt, iI_add, iI_sub, iI_mul, iI_neg, iI_lt, iI_le, iI_eq, iI_n, iI_in, iI_div, iI_mod, iI_shm, iI_and1, iI_and7, iI_and63, iI_shr3, iI_shr6, rd_I, ob, Option.some.injEq, exists_eq_left', exists_eq_left, true_and, and_true, fqI, fqJ, eq_self, true_or, or_true, bP_0, bP_0i, npP, bP_1i, bP_b, not_true_eq_false, not_false_eq_true, false_implies, true_implies, implies_true, Classical.not_not, and_self, cP, cP', ite_n, ite_T, ite_F, ite_t, ite_f]
    exact k g ((f1.mono (by simp) (by simp) (by simp)).trans (fg.mono (by simp) (by simp) (by simp))) (by rw [fg.row (by simp), r1]) t1
/-- how a scene is copied: into the one that is, out of one that was kept; or the other way -/
def CpOk (sc la so lb : Nat) : Prop := (sc = 31 ∧ (la = 5 ∨ la = 32) ∧ 119 ≤ so ∧ lb = so + 1) ∨ (119 ≤ sc ∧ la = sc + 1 ∧ so = 31 ∧ (lb = 5 ∨ lb = 32))
def cpW (sc la : Nat) : List Nat := [sc, la, la + 1, la + 3, la + 4, la + 5, la + 6, la + 7, la + 8, la + 9, la + 10, la + 11, la + 12, la + 13, la + 14, la + 15, la + 16, la + 17, la + 18, la + 19, la + 20, sc + 23, sc + 25, sc + 26]
theorem c_copyScene (hc : CpOk sc la so lb) (K1 : SK h sc la) (H : LB h la) (S : Scn h so lb s nm) (hG : GA s)
    (k : ∀ h', Fr (cpW sc la) [la, la + 2, sc + 24] [sc + 22] h h' → (∀ j, j ≠ 0 → aP h' (sc + 22) j = aP h (sc + 22) j) → aP h' (sc + 22) 0 = some la → rd h' sc = updT (rd h sc) 2 (s 249) → LR h' la s → NR h' la s nm → TR h' (sc + 22) la s (tS s) (zC s) → PL h' sc s → postV h') : wp_X5_copy h sc so postV := by
  have bd := hG.bd
  have hd : la + 20 < lb ∨ lb + 20 < la := by unfold CpOk at hc; omega
  obtain ⟨o0, p0, p1, tb, p3, o25, l25, p4, o26, l26⟩ := K1
  obtain ⟨⟨O0, P0, P1, TB', P3, O25, L25, P4, O26, L26⟩, H', L, N, T, Pa, Pb⟩ := S
  unfold CpOk at hc
  unfold wp_X5_copy
  refine ⟨o0, la, p0, O0, lb, P0, H.o0, c_copyLag H H' hd ?_⟩
  intro g1 f1 a0 a1 a2 a3 a4 a5 a6 a7 a8 a9 a10 a11 a12 a13 a14 a15 a16 a17 a18 a19 a20 a21 a22 a23 a24
  have eP1 : aP g1 = aP h := f1.aPe
  have ge1 := f1.gr
  have B1 : TB g1 (sc + 22) := tb.fr f1 ⟨by rw [eP1], by rw [eP1]⟩
  have B1' : TB g1 (so + 22) := TB'.fr f1 ⟨by rw [eP1], by rw [eP1]⟩
  refine ⟨ge1.ob o0, sc + 22, by rw [eP1]; exact p1, ge1.ob o0, la, by rw [eP1]; exact p0, ge1.ob O0, so + 22, by rw [eP1]; exact P1, B1.o0, c_follow B1 B1' (by omega) ?_⟩
  intro g2 f2 q0 qj rs rj
  have p2' : ∀ (a : Nat) (j : Nat), a ≠ sc + 22 → aP g2 a j = aP h a j := fun a j ha => by rw [f2.2.2.2.2.2.2 a (by simpa using ha), eP1]
  have ob2 : ∀ {a k : Nat}, ob h a k → ob g2 a k := fun {a k} o => ⟨by rw [f2.2.2.1, f1.2.2.1]; exact o.1, by rw [f2.1, f1.1]; exact o.2⟩
  have len2 : ∀ (a : Nat), aL g2 a = aL h a := fun a => by rw [f2.2.2.2.1, f1.2.2.2.1]
  have nn : rd g2 so = rd h so := by rw [f2.row (by simp; omega), f1.row (by simp; omega)]
  refine ⟨ob2 O0, ob2 O0, so + 25, by rw [p2' _ _ (by omega)]; exact P3, ob2 O0, so + 26, by rw [p2' _ _ (by omega)]; exact P4, ob2 o0, ?_⟩
  rw [fd2, nn, Pa]
  refine c_setActs (ob2 o0) (by rw [p2' _ _ (by omega)]; exact p3) (ob2 o25) (by rw [len2]; exact l25) (by rw [p2' _ _ (by omega)]; exact p4) (ob2 o26) (by rw [len2]; exact l26) (ob2 O25) (by rw [len2]; exact L25) (ob2 O26) (by rw [len2]; exact L26) (by omega) (by omega) fun g3 f3 r3 t3 => ?_
  have F : Fr (cpW sc la) [la, la + 2, sc + 24] [sc + 22] h g3 := (f1.mono (by unfold cpW; simp) (by simp) (by simp)).trans ((f2.mono (by unfold cpW; simp) (by simp) (by simp)).trans (f3.mono (by unfold cpW; simp) (by simp) (by simp)))
  have rl : ∀ j, j ≤ 20 → rd g3 (la + j) = rd g1 (la + j) := fun j hj => by rw [f3.row (by simp; omega), f2.row (by simp; omega)]
  have jl : ∀ j, j ≤ 20 → aJ g3 (la + j) = aJ g1 (la + j) := fun j hj => by rw [f3.2.2.2.2.2.1 _ List.not_mem_nil, f2.2.2.2.2.2.1 _ (by simp; omega)]
  have r0 : rd g3 la = rd g1 la := rl 0 (by omega)
  have j0 : aJ g3 la = aJ g1 la := jl 0 (by omega)
  have eP3 : ∀ a j, aP g3 a j = aP g2 a j := fun a j => by rw [f3.2.2.2.2.2.2 a List.not_mem_nil]
  refine k g3 F (fun j hj => by rw [eP3, qj j hj, eP1]) (by rw [eP3, q0]) (by rw [r3, f2.row (by simp; omega), f1.row (by simp; omega)]) ?_ ?_ ?_ ?_
  · obtain ⟨q1, q2, q3, q4, q5, q6, q7, q8, q9, q10, q11, q12, q13, q14, q15, q16, q17, q18, q19, q20, q21, q22, q23⟩ := L
    refine ⟨by rw [r0, a0]; exact q1, by rw [r0, a1]; exact q2, by rw [r0, a5]; exact q3, by rw [r0, a11]; exact q4, by rw [rl 10 (by omega), a14]; exact q5, by rw [rl 16 (by omega), a20]; exact q6, fun x y x1 x2 y1 y2 => ?_, fun g x y g1 g2 x1 x2 y1 y2 => ?_, fun i i1 i2 => ?_, fun r r1 r2 => ?_, fun r r1 r2 => ?_, fun r r1 r2 => ?_, fun k k1 k2 => ?_, fun k k1 k2 => ?_, fun k k1 k2 => ?_, fun k k1 k2 => ?_, fun k k1 k2 => ?_, fun r r1 r2 => ?_, fun w w1 w2 => ?_, fun w w1 w2 => ?_, fun w w1 w2 => ?_, fun w w1 w2 => ?_, fun x y x1 x2 y1 y2 => ?_⟩
    · rw [rl 1 (by omega), a2 _ (by omega) (by omega)]; exact q7 x y x1 x2 y1 y2
    · rw [jl 2 (by omega), a3 _ (by omega) (by omega)]; exact q8 g x y g1 g2 x1 x2 y1 y2
    · rw [rl 3 (by omega), a4 _ (by omega) (by omega)]; exact q9 i i1 i2
    · rw [rl 5 (by omega), a7 _ (by omega) (by omega)]; exact q10 r r1 r2
    · rw [rl 6 (by omega), a8 _ (by omega) (by omega)]; exact q11 r r1 r2
    · rw [rl 7 (by omega), a9 _ (by omega) (by omega)]; exact q12 r r1 r2
    · rw [rl 9 (by omega), a12 _ (by omega) (by omega)]; exact q13 k k1 k2
    · rw [rl 11 (by omega), a15 _ (by omega) (by omega)]; exact q14 k k1 k2
    · rw [rl 12 (by omega), a16 _ (by omega) (by omega)]; exact q15 k k1 k2
    · rw [rl 13 (by omega), a17 _ (by omega) (by omega)]; exact q16 k k1 k2
    · rw [rl 14 (by omega), a18 _ (by omega) (by omega)]; exact q17 k k1 k2
    · rw [rl 15 (by omega), a19 _ (by omega) (by omega)]; exact q18 r r1 r2
    · rw [rl 17 (by omega), a21 _ (by omega) (by omega)]; exact q19 w w1 w2
    · rw [rl 18 (by omega), a22 _ (by omega) (by omega)]; exact q20 w w1 w2
    · rw [rl 19 (by omega), a23 _ (by omega) (by omega)]; exact q21 w w1 w2
    · rw [rl 20 (by omega), a24 _ (by omega) (by omega)]; exact q22 w w1 w2
    · rw [j0, a13]; exact q23 x y x1 x2 y1 y2
  · intro r r1 r2
    rw [rl 4 (by omega), a6 _ (by omega) (by omega)]
    exact N r r1 r2
  · obtain ⟨-, -, t1, t2⟩ := T
    refine ⟨?_, by rw [eP3]; exact q0, fun r r1 r2 => ?_, fun r r1 r2 x y => ?_⟩
    · have B2 : TB g2 (sc + 22) := B1.fr f2 ⟨qj 1 (by omega), qj 2 (by omega)⟩
      exact B2.fr f3 ⟨eP3 _ _, eP3 _ _⟩
    · rw [f3.row (by simp; omega), rs r r1 (by omega), f1.row (by simp; omega)]; exact t1 r r1 r2
    · rw [f3.2.2.2.2.2.1 _ List.not_mem_nil, rj r r1 (by omega), f1.2.2.2.2.2.1 _ (by simp; omega)]; exact t2 r r1 r2 x y
  · refine ⟨by rw [r3, updT_s], fun i i1 i2 => ?_⟩
    obtain ⟨u1, u2⟩ := t3 i i1 i2
    rw [u1, u2, f2.row (by simp; omega), f1.row (by simp; omega), f2.row (by simp; omega), f1.row (by simp; omega)]
    exact Pb i i1 i2
end COPY
