/-! .. by the RAFT's; and every LINE -/
section KPR
variable {fr tx ci tb la : Nat} {a b c d r x y n m p f fa q e k i lo hi v w hh dr td sp ra rb re ho : Int} {T s s' : Int → Int} {l : List Int} {N : Int → List Int}
theorem flat (t0 : s (225 + 3 * r + 2) = 0) (h1 : 0 ≤ r) (h2 : r < 8) : tS s (3 * r) = s (225 + 3 * r) ∧ tS s (3 * r + 1) = s (225 + 3 * r + 1) ∧ tS s (3 * r + 2) = 0 ∧ wdT (tS s) (zC s) r = s (99 + 3 * r) ∧ hiT (tS s) (zC s) r = s (99 + 3 * r + 1) := by
  have e0 : tS s (3 * r) = s (225 + 3 * r) := tS_i (by omega) (by omega)
  have e1 : tS s (3 * r + 1) = s (225 + 3 * r + 1) := by rw [tS_i (by omega) (by omega), show 225 + (3 * r + 1) = 225 + 3 * r + 1 by omega]
  have e2 : tS s (3 * r + 2) = 0 := by rw [tS_i (by omega) (by omega), show 225 + (3 * r + 2) = 225 + 3 * r + 2 by omega]; exact t0
  refine ⟨e0, e1, e2, ?_, ?_⟩
  · unfold wdT
    rw [e2, show 3 * r + 0 = 3 * r by omega, zC_i (by omega) (by omega)]
  · unfold hiT
    rw [e2, show 3 * r + 1 - 0 = 3 * r + 1 by omega, zC_i (by omega) (by omega), show 99 + (3 * r + 1) = 99 + 3 * r + 1 by omega]
theorem BA.raft (B : BA s td) (h8 : s 2 < 8) (hw : 1 ≤ w ∧ w ≤ 3) (hhh : 1 ≤ hh ∧ hh ≤ 3) (hdr : 0 ≤ dr ∧ dr ≤ 9) (hx : 0 ≤ x ∧ x + w ≤ s 0) (hy : 0 ≤ y ∧ y + hh ≤ s 1) (hov : ∀ o, 0 ≤ o → o < s 2 → ¬ ovN s o w hh x y) : BA (rafU s w hh dr x y) td := by
  have rz := fun r (r0 : 0 ≤ r) (r1 : r < s 2) => B.rz r0 r1
  obtain ⟨⟨⟨sb, b0, b1, b2, b3, b4, b5, ro, wo⟩, ⟨sd1, sd2, sd3⟩, po, rn⟩, wl, sq, vt, rp, rq, t0, s8, pl, wz, tb, ru⟩ := B
  have z0 := (sb 0 (by omega) (by omega)).1
  have z1 := (sb 1 (by omega) (by omega)).1
  have z2 := (sb 2 (by omega) (by omega)).1
  have z3 := (sb 3 (by omega) (by omega)).1
  have z4 := (sb 4 (by omega) (by omega)).1
  have z5 := (sb 5 (by omega) (by omega)).1
  have es : ∀ i, (i ≠ 2 ∧ (i < 99 + 3 * s 2 ∨ 99 + 3 * s 2 + 2 < i) ∧ (i < 225 + 3 * s 2 ∨ 225 + 3 * s 2 + 2 < i)) → rafU s w hh dr x y i = s i := fun i hi => by unfold rafU; rw [updT_n (by omega), updT_n (by omega), updT_n (by omega), updT_n (by omega), updT_n (by omega), updT_n (by omega), updT_n (by omega)]
  have s2 : rafU s w hh dr x y 2 = s 2 + 1 := by unfold rafU; rw [updT_s]
  have sA : rafU s w hh dr x y (99 + 3 * s 2) = w := by unfold rafU; rw [updT_n (by omega), updT_n (by omega), updT_n (by omega), updT_n (by omega), updT_n (by omega), updT_n (by omega), updT_s]
  have sB : rafU s w hh dr x y (99 + 3 * s 2 + 1) = hh := by unfold rafU; rw [updT_n (by omega), updT_n (by omega), updT_n (by omega), updT_n (by omega), updT_n (by omega), updT_s]
  have sC : rafU s w hh dr x y (99 + 3 * s 2 + 2) = dr := by unfold rafU; rw [updT_n (by omega), updT_n (by omega), updT_n (by omega), updT_n (by omega), updT_s]
  have sX : rafU s w hh dr x y (225 + 3 * s 2) = x := by unfold rafU; rw [updT_n (by omega), updT_n (by omega), updT_n (by omega), updT_s]
  have sY : rafU s w hh dr x y (225 + 3 * s 2 + 1) = y := by unfold rafU; rw [updT_n (by omega), updT_n (by omega), updT_s]
  have sT : rafU s w hh dr x y (225 + 3 * s 2 + 2) = 0 := by unfold rafU; rw [updT_n (by omega), updT_s]
  have tt : ∀ r, 0 ≤ r → r < s 2 + 1 → rafU s w hh dr x y (225 + 3 * r + 2) = 0 := fun r r0 r1 => by
    by_cases cr : r = s 2
    · rw [cr, sT]
    · rw [es _ (by omega)]; exact t0 r r0 (by omega)
  have FO : ∀ r, 0 ≤ r → r < s 2 → rafU s w hh dr x y (99 + 3 * r) = s (99 + 3 * r) ∧ rafU s w hh dr x y (99 + 3 * r + 1) = s (99 + 3 * r + 1) ∧ rafU s w hh dr x y (225 + 3 * r) = s (225 + 3 * r) ∧ rafU s w hh dr x y (225 + 3 * r + 1) = s (225 + 3 * r + 1) := fun r r0 r1 => ⟨es _ (by omega), es _ (by omega), es _ (by omega), es _ (by omega)⟩
  have NF : ∀ r, 0 ≤ r → r < s 2 + 1 → _ := fun r r0 r1 => flat (tt r r0 r1) r0 (by omega)
  have OF : ∀ r, 0 ≤ r → r < s 2 → _ := fun r r0 r1 => flat (t0 r r0 r1) r0 (by omega)
  have gp : ∀ a b, 0 ≤ a → a < s 2 → 0 ≤ b → b < s 2 → gapT (tS (rafU s w hh dr x y)) (zC (rafU s w hh dr x y)) a b = gapT (tS s) (zC s) a b := fun a b a0 a1 b0 b1 => by
    obtain ⟨p1, p2, p3, p4, p5⟩ := NF a a0 (by omega)
    obtain ⟨q1, q2, q3, q4, q5⟩ := NF b b0 (by omega)
    obtain ⟨u1, u2, u3, u4, u5⟩ := OF a a0 a1
    obtain ⟨v1, v2, v3, v4, v5⟩ := OF b b0 b1
    obtain ⟨i1, i2, i3, i4⟩ := FO a a0 a1
    obtain ⟨j1, j2, j3, j4⟩ := FO b b0 b1
    unfold gapT
    rw [p1, p2, p4, p5, q1, q2, q4, q5, u1, u2, u4, u5, v1, v2, v4, v5, i1, i2, i3, i4, j1, j2, j3, j4]
  have nov : ∀ r o, 0 ≤ r → r < s 2 → 0 ≤ o → o < s 2 → o ≠ r → ¬ ((s (225 + 3 * r) < s (225 + 3 * o) + s (99 + 3 * o) ∧ s (225 + 3 * o) < s (225 + 3 * r) + s (99 + 3 * r)) ∧ s (225 + 3 * r + 1) < s (225 + 3 * o + 1) + s (99 + 3 * o + 1) ∧ s (225 + 3 * o + 1) < s (225 + 3 * r + 1) + s (99 + 3 * r + 1)) := fun r o r0 r1 o0 o1 ne => by
    have u := (vt r r0 r1).2.2 o o0 o1 ne
    obtain ⟨u1, u2, u3, u4, u5⟩ := OF r r0 r1
    obtain ⟨v1, v2, v3, v4, v5⟩ := OF o o0 o1
    unfold overT ovX ovY at u
    rw [u1, u2, u4, u5, v1, v2, v4, v5] at u
    intro z
    exact u (by omega)
  have VTn : VT (rafU s w hh dr x y) (tS (rafU s w hh dr x y)) (zC (rafU s w hh dr x y)) := by
    intro r r0 r1
    rw [s2] at r1
    obtain ⟨p1, p2, p3, p4, p5⟩ := NF r r0 r1
    have num : (0 ≤ rafU s w hh dr x y (225 + 3 * r) ∧ rafU s w hh dr x y (225 + 3 * r) + rafU s w hh dr x y (99 + 3 * r) ≤ s 0) ∧ (0 ≤ rafU s w hh dr x y (225 + 3 * r + 1) ∧ rafU s w hh dr x y (225 + 3 * r + 1) + rafU s w hh dr x y (99 + 3 * r + 1) ≤ s 1) ∧ 1 ≤ rafU s w hh dr x y (99 + 3 * r) ∧ 1 ≤ rafU s w hh dr x y (99 + 3 * r + 1) := by
      by_cases cr : r = s 2
      · rw [cr, sA, sB, sX, sY]; omega
      · obtain ⟨i1, i2, i3, i4⟩ := FO r r0 (by omega)
        have := rz r r0 (by omega)
        rw [i1, i2, i3, i4]; omega
    refine ⟨⟨by rw [p1]; omega, by rw [p2]; omega, by rw [p3]; omega, fun _ => p3⟩, ?_, fun o o0 o1 ne => ?_⟩
    · unfold insT
      rw [p1, p2, p4, p5, es 0 (by omega), es 1 (by omega)]
      omega
    · rw [s2] at o1
      obtain ⟨q1, q2, q3, q4, q5⟩ := NF o o0 o1
      unfold overT ovX ovY
      rw [p1, p2, p4, p5, q1, q2, q4, q5]
      by_cases cr : r = s 2
      · obtain ⟨j1, j2, j3, j4⟩ := FO o o0 (by omega)
        have u := hov o o0 (by omega)
        unfold ovN at u
        rw [cr, sA, sB, sX, sY, j1, j2, j3, j4]
        intro z
        exact u (by omega)
      · obtain ⟨i1, i2, i3, i4⟩ := FO r r0 (by omega)
        rw [i1, i2, i3, i4]
        by_cases co : o = s 2
        · have u := hov r r0 (by omega)
          unfold ovN at u
          rw [co, sA, sB, sX, sY]
          intro z
          exact u (by omega)
        · obtain ⟨j1, j2, j3, j4⟩ := FO o o0 (by omega)
          rw [j1, j2, j3, j4]
          have u := nov r o r0 (by omega) o0 (by omega) ne
          intro z
          exact u (by omega)
  exact ⟨⟨⟨(((((((sb.up (by omega) (by omega)).up (by omega) (by omega)).up (by omega) (by omega)).up (by omega) (by omega)).up (by omega) (by omega)).up (by omega) (by omega)).up (by omega) (by omega)), (by rw [es (0) (by omega)]; exact b0), (by rw [es (1) (by omega)]; exact b1), (by rw [s2]; omega), (by rw [es (3) (by omega)]; exact b3), (by rw [es (4) (by omega)]; exact b4), (by rw [es (5) (by omega)]; exact b5), (fun k k0 k1 => by rw [es 4 (by omega)] at k1; rw [es (135 + 4 * k) (by omega), es (135 + 4 * k + 1) (by omega), s2]; have := ro k k0 k1; omega), (fun k k0 k1 => by rw [es 5 (by omega)] at k1; rw [es (175 + 5 * k) (by omega), es (175 + 5 * k + 1) (by omega), es (175 + 5 * k + 2) (by omega), s2]; have u := wo k k0 k1; exact ⟨u.1, by omega, fun z => by have := u.2.2 z; omega⟩)⟩, ⟨(fun i i0 i1 => by rw [es (75 + i) (by omega)]; exact sd1 i i0 i1), (fun x y x0 x1 y0 y1 => by rw [es (0) (by omega)] at x1; rw [es (1) (by omega)] at y1; rw [es (11 + 8 * y + x) (by omega)]; exact sd2 x y x0 x1 y0 y1), (fun r r0 r1 => by rw [s2] at r1; by_cases cr : r = s 2; { rw [cr, sA, sB, sC]; omega }; { rw [es (99 + 3 * r) (by omega), es (99 + 3 * r + 1) (by omega), es (99 + 3 * r + 2) (by omega)]; exact sd3 r r0 (by omega) })⟩, (fun k k0 k1 => by rw [es (3) (by omega)] at k1; rw [es (123 + 2 * k) (by omega), es (123 + 2 * k + 1) (by omega)]; exact po k k0 k1), (fun k k0 k1 => by rw [es (4) (by omega)] at k1; rw [es (135 + 4 * k) (by omega), es (135 + 4 * k + 1) (by omega)]; exact rn k k0 k1)⟩, (fun k k0 k1 => by rw [es (5) (by omega)] at k1; rw [es (175 + 5 * k) (by omega), es (175 + 5 * k + 2) (by omega), es (175 + 5 * k + 3) (by omega), es (175 + 5 * k + 1) (by omega)]; exact wl k k0 k1), (by unfold SqOk; rw [es (6) (by omega), es (7) (by omega), es (8) (by omega), es (9) (by omega)]; exact sq), VTn, (fun k k0 k1 => by rw [es 4 (by omega)] at k1; rw [es (135 + 4 * k) (by omega), es (135 + 4 * k + 1) (by omega), es (135 + 4 * k + 2) (by omega)]; have u := ro k k0 k1; rw [gp _ _ u.1.1 u.1.2 u.2.1 u.2.2]; exact rp k k0 k1), (fun k k0 k1 => by rw [es (4) (by omega)] at k1; rw [es (135 + 4 * k + 2) (by omega)]; exact rq k k0 k1), (fun r r0 r1 => by rw [s2] at r1; exact tt r r0 r1), (by rw [es (8) (by omega), es (9) (by omega)]; exact s8), (fun i i0 => by rw [es (i) (by omega)]; exact pl i i0), (fun i i0 i1 => by rw [es (5) (by omega)] at i0; rw [es (i) (by omega)]; exact wz i i0 i1), tb, (fun k l k0 kl l1 => by rw [es (4) (by omega)] at l1; rw [es (135 + 4 * k) (by omega), es (135 + 4 * k + 1) (by omega), es (135 + 4 * l) (by omega), es (135 + 4 * l + 1) (by omega)]; exact ru k l k0 kl l1)⟩
end KPR
