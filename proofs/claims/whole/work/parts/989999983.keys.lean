/-! TOWNS by the order in which the model tries them -/
def vM (s T : Int → Int) (r : Int) : Int := if r < s 2 then s 0 * s 1 * T (3 * r + 2) + (s 0 * T (3 * r + 1) + T (3 * r)) else 0
def kM (s T : Int → Int) : Int := 2500 * vM s T 0 + 50 * vM s T 1 + vM s T 2
section KEY
variable {h h1 h2 h' h0 g0 g : AH} {a b c d f i j k v w x y pl r hr how gl goal most st u p o n N C : Int} {s t t' t0 z T T' : Int → Int} {S : BS}
theorem mul_lt1 (y0 : 0 ≤ y) (y1 : y < b) (a0 : 0 ≤ a) : a * y + a ≤ a * b := by
  have := Int.mul_le_mul_of_nonneg_left (show y + 1 ≤ b by omega) a0
  rw [Int.mul_add, Int.mul_one] at this
  exact this
theorem ins_bd (gs : GS s) (e : EZ z s) (W : LYS s T z) (r0 : 0 ≤ r) (r1 : r < s 2) : (0 ≤ T (3 * r) ∧ T (3 * r) < s 0) ∧ (0 ≤ T (3 * r + 1) ∧ T (3 * r + 1) < s 1) ∧ (0 ≤ T (3 * r + 2) ∧ T (3 * r + 2) ≤ 1) := by
  have V := W r r0 r1
  have wz := wd_Z V.1.P1 (Z1.of e gs.2.1 r0 r1 gs.1.2.2.2.1)
  have in0 := V.2
  unfold insT at in0
  have sp := V.1
  unfold Spot at sp
  omega
/-- a TOWN's numbers here, and the TOWN by them -/
theorem dig_v (gs : GS s) (e : EZ z s) (W : LYS s T z) (r0 : 0 ≤ r) (r1 : r < s 2) : (0 ≤ vM s T r ∧ vM s T r < 2 * (s 0 * s 1)) ∧ T (3 * r) = vM s T r % (s 0 * s 1) % s 0 ∧ T (3 * r + 1) = vM s T r % (s 0 * s 1) / s 0 ∧ T (3 * r + 2) = vM s T r / (s 0 * s 1) := by
  obtain ⟨bx, by', bt⟩ := ins_bd gs e W r0 r1
  have m1 := mul_lt1 by'.1 by'.2 (show 0 ≤ s 0 by omega)
  have m0 := Int.mul_nonneg (show 0 ≤ s 0 by omega) by'.1
  have ev : vM s T r = s 0 * s 1 * T (3 * r + 2) + (s 0 * T (3 * r + 1) + T (3 * r)) := by unfold vM; rw [if_pos r1]
  have c0 : (s 0 * T (3 * r + 1) + T (3 * r)) % s 0 = T (3 * r) := by rw [Int.mul_add_emod_self_left]; exact Int.emod_eq_of_lt bx.1 bx.2
  have c1 : (s 0 * T (3 * r + 1) + T (3 * r)) / s 0 = T (3 * r + 1) := by
    rw [Int.add_comm, Int.add_mul_ediv_left _ _ (by omega), Int.ediv_eq_zero_of_lt bx.1 bx.2]
    omega
  generalize s 0 * T (3 * r + 1) = A at *
  generalize hC : s 0 * s 1 = C at *
  have v0 : vM s T r % C = A + T (3 * r) := by rw [ev, Int.mul_add_emod_self_left]; exact Int.emod_eq_of_lt (by omega) (by omega)
  have v1 : vM s T r / C = T (3 * r + 2) := by
    rw [ev, Int.add_comm, Int.add_mul_ediv_left _ _ (by omega), Int.ediv_eq_zero_of_lt (by omega) (by omega)]
    omega
  rw [v0, v1, c0, c1]
  refine ⟨?_, rfl, rfl, rfl⟩
  rw [ev]
  have cc : T (3 * r + 2) = 0 ∨ T (3 * r + 2) = 1 := by omega
  rcases cc with q | q
  · rw [q, Int.mul_zero]; omega
  · rw [q, Int.mul_one]; omega
theorem vM_out (h1 : s 2 ≤ r) : vM s T r = 0 := by unfold vM; rw [if_neg (by omega)]
theorem dig_b (gs : GS s) (fw : few s) (e : EZ z s) (W : LYS s T z) (r0 : 0 ≤ r) : 0 ≤ vM s T r ∧ vM s T r < 50 := by
  have := fw.2
  by_cases c : r < s 2
  · have := (dig_v gs e W r0 c).1; omega
  · rw [vM_out (by omega)]; omega
theorem same_v (gs : GS s) (fw : few s) (e : EZ z s) (A : VAl s t0 z T) (B : VAl s t0 z T') (ee : ∀ r, 0 ≤ r → r < s 2 → vM s T r = vM s T' r) : T = T' := by
  funext j
  by_cases c : 0 ≤ j ∧ j < 3 * s 2
  · have a := dig_v gs e (LYS.vt A.1) (r := j / 3) (by omega) (by omega)
    have b := dig_v gs e (LYS.vt B.1) (r := j / 3) (by omega) (by omega)
    have q := ee (j / 3) (by omega) (by omega)
    rw [q] at a
    by_cases c0 : j % 3 = 0
    · rw [show j = 3 * (j / 3) by omega, a.2.1, b.2.1]
    by_cases c1 : j % 3 = 1
    · rw [show j = 3 * (j / 3) + 1 by omega, a.2.2.1, b.2.2.1]
    · rw [show j = 3 * (j / 3) + 2 by omega, a.2.2.2, b.2.2.2]
  · rw [A.2.2 j (by omega), B.2.2 j (by omega)]
theorem ord_r (gs : GS s) (fw : few s) (e : EZ z s) (A : VT s T z) (B : VT s T' z) (r0 : 0 ≤ r) : (nmr s T r < nmr s T' r → vM s T r < vM s T' r) ∧ (nmr s T r = nmr s T' r → vM s T r = vM s T' r) := by
  by_cases c : r < s 2
  case neg =>
    have n1 : nmr s T r = 0 := by unfold nmr; rw [ite_f c]
    have n2 : nmr s T' r = 0 := by unfold nmr; rw [ite_f c]
    rw [vM_out (by omega), vM_out (by omega)]
    exact ⟨fun u => by omega, fun _ => rfl⟩
  refine ⟨fun u => ?_, fun u => ?_⟩
  · have ea := enc_nums (A r r0 c).1
    have eb := enc_nums (B r r0 c).1
    have lt : enc T r < enc T' r := Classical.byContradiction fun n => by
      have := nmB_le (s := s) (r := r) eb.1.1 (show enc T' r ≤ enc T r by omega)
      unfold nmr at u
      rw [ite_t c, ite_t c] at u
      omega
    obtain ⟨bx, by', bt⟩ := ins_bd gs e (LYS.vt A) r0 c
    obtain ⟨cx, cy, ct⟩ := ins_bd gs e (LYS.vt B) r0 c
    have n0 : s 0 ≤ 8 := gs.1.2.1
    have m1 := mul_lt1 by'.1 by'.2 (show 0 ≤ s 0 by omega)
    have m2 := mul_lt1 cy.1 cy.2 (show 0 ≤ s 0 by omega)
    have k1 := Int.mul_nonneg (show 0 ≤ s 0 by omega) cy.1
    have k0 := Int.mul_nonneg (show 0 ≤ s 0 by omega) by'.1
    unfold enc at lt
    unfold vM
    rw [if_pos c, if_pos c]
    by_cases ctt : T (3 * r + 2) = T' (3 * r + 2)
    · rw [ctt]
      by_cases cyy : T (3 * r + 1) = T' (3 * r + 1)
      · rw [cyy]; omega
      · have m3 := mul_lt1 (a := s 0) (y := T (3 * r + 1)) (b := T' (3 * r + 1)) by'.1 (by omega) (by omega)
        omega
    · have q0 : T (3 * r + 2) = 0 := by omega
      have q1 : T' (3 * r + 2) = 1 := by omega
      rw [q0, q1, Int.mul_zero, Int.mul_one]
      omega
  · have k := nmr_inj fw e A B r0 c u.symm
    unfold vM
    rw [k.1, k.2.1, k.2.2]
theorem ord_k (gs : GS s) (fw : few s) (e : EZ z s) (A : VT s T z) (B : VT s T' z) (lt : csT s T < csT s T') : kM s T < kM s T' := by
  have a0 := ord_r gs fw e A B (r := 0) (by omega)
  have a1 := ord_r gs fw e A B (r := 1) (by omega)
  have a2 := ord_r gs fw e A B (r := 2) (by omega)
  have m := fun r r0 (r3 : r < 3) => nmr_c gs fw e (LYS.vt A) (r := r) r0 r3
  have m' := fun r r0 (r3 : r < 3) => nmr_c gs fw e (LYS.vt B) (r := r) r0 r3
  have p0 := m 0 (by omega) (by omega)
  have p1 := m 1 (by omega) (by omega)
  have p2 := m 2 (by omega) (by omega)
  have q0 := m' 0 (by omega) (by omega)
  have q1 := m' 1 (by omega) (by omega)
  have q2 := m' 2 (by omega) (by omega)
  have b0 := dig_b gs fw e (LYS.vt A) (r := 0) (by omega)
  have b1 := dig_b gs fw e (LYS.vt A) (r := 1) (by omega)
  have b2 := dig_b gs fw e (LYS.vt A) (r := 2) (by omega)
  have c0 := dig_b gs fw e (LYS.vt B) (r := 0) (by omega)
  have c1 := dig_b gs fw e (LYS.vt B) (r := 1) (by omega)
  have c2 := dig_b gs fw e (LYS.vt B) (r := 2) (by omega)
  unfold csT at lt
  unfold kM
  by_cases w0 : nmr s T 0 < nmr s T' 0
  · have := a0.1 w0; omega
  · have e0 : nmr s T 0 = nmr s T' 0 := by omega
    have := a0.2 e0
    by_cases w1 : nmr s T 1 < nmr s T' 1
    · have := a1.1 w1; omega
    · have e1 : nmr s T 1 = nmr s T' 1 := by omega
      have := a1.2 e1
      have := a2.1 (by omega)
      omega
/-- what holds of one RAFT after the other -/
theorem fs_of (A : VAl s t0 z T) (hK : ROk s) (d0 : 0 ≤ d) (d1 : d < s 2) : fsT s T z d := by
  refine ⟨(A.1 d d0 d1).2.1, fun o o0 o1 => (A.1 d d0 d1).2.2 o o0 (by omega) (by omega), fun k k0 k1 u => ?_⟩
  obtain ⟨⟨k2, k3⟩, k4, k5⟩ := hK k k0 k1
  rcases u.1 with q | q
  · have := A.2.1 (s (135 + 4 * k + 1)) d (by omega) q.2 d1 k k0 k1 (Or.inr ⟨q.1, rfl⟩); have := u.2; omega
  · have := A.2.1 (s (135 + 4 * k)) d (by omega) q.2 d1 k k0 k1 (Or.inl ⟨rfl, q.1⟩); have := u.2; omega
theorem va_fs (hS : ∀ d, 0 ≤ d → d < s 2 → Spot T z d ∧ fsT s T z d) (ho : ∀ j, j < 0 ∨ 3 * s 2 ≤ j → T j = t0 j) : VAl s t0 z T := by
  refine ⟨fun r r0 r1 => ⟨(hS r r0 r1).1, (hS r r0 r1).2.1, fun o o0 o1 ne => ?_⟩, fun a b a0 ab b1 k k0 k1 hh => ?_, ho⟩
  · by_cases c : o < r
    · exact (hS r r0 r1).2.2.1 o o0 c
    · exact fun u => (hS o o0 o1).2.2.1 r r0 (by omega) (over_sym.mp u)
  · have := (hS b (by omega) b1).2.2.2 k k0 k1
    exact Classical.byContradiction fun n => this ⟨by omega, by omega⟩
theorem fs_cg (hd : ∀ o, 0 ≤ o → o ≤ d → T (3 * o) = t (3 * o) ∧ T (3 * o + 1) = t (3 * o + 1) ∧ T (3 * o + 2) = t (3 * o + 2)) (d0 : 0 ≤ d) (hK : ROk s) (F : fsT s T z d) : fsT s t z d := by
  have sc := fun o o0 o1 => spot_c (s := s) (z := z) (t := t) (t' := T) (o := o) (hd o o0 o1).1 (hd o o0 o1).2.1 (hd o o0 o1).2.2
  refine ⟨(sc d d0 (Int.le_refl _)).2.2.2.2.1.mp F.1, fun o o0 o1 u => F.2.1 o o0 o1 ?_, fun k k0 k1 u => F.2.2 k k0 k1 ⟨u.1, ?_⟩⟩
  · have a := sc d d0 (Int.le_refl _)
    have b := sc o o0 (by omega)
    have x := hd d d0 (Int.le_refl _)
    have y := hd o o0 (by omega)
    unfold overT ovX ovY at u ⊢
    rw [a.2.2.1, a.2.2.2.1, b.2.2.1, b.2.2.2.1, x.1, x.2.1, y.1, y.2.1]
    exact u
  · obtain ⟨⟨k2, k3⟩, k4, k5⟩ := hK k k0 k1
    have l1 : s (135 + 4 * k) ≤ d := by have := u.1; omega
    have l2 : s (135 + 4 * k + 1) ≤ d := by have := u.1; omega
    have a := sc _ k2 l1
    have b := sc _ k4 l2
    have x := hd _ k2 l1
    have y := hd _ k4 l2
    have g := u.2
    unfold gapT at g ⊢
    rw [a.2.2.1, a.2.2.2.1, b.2.2.1, b.2.2.2.1, x.1, x.2.1, y.1, y.2.1]
    exact g
end KEY
