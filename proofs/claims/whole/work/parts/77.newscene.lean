/-! a new scene -/
section NEWSC
variable {h0 h h' : AH} {b : Nat} {postV : AH → Prop}
/-- what a new scene's cells hold -/
def NSc (h0 h : AH) (sc : Nat) : Prop := aN h = sc + 27 ∧ aS h ≤ aS h0 + 1000 ∧ SK h sc (sc + 1) ∧ LB h (sc + 1) ∧ aP h (sc + 22) 0 = some (sc + 1) ∧ (∀ a, a < sc → aK h a = aK h0 a ∧ aL h a = aL h0 a ∧ aI h a = aI h0 a ∧ aJ h a = aJ h0 a ∧ aP h a = aP h0 a)
set_option maxRecDepth 100000 in
theorem c_newScene (B1 : Bk h0 h b [(5, 5)] [] []) (r1 : aN h ≤ 400000) (r2 : aS h ≤ 5000000) (r3 : aS h = aS h0 + 5) (k : ∀ h', NSc h0 h' b → postV h') : wp_X5_init h b postV := by
  show wp_X5_init h (b + 0) postV
  unfold wp_X5_init
  refine Bk.mk (kd := 1) (len := 16) B1 (by decide) (by simp) ⟨by omega, by omega⟩ fun g2 B2 N2 M2 => ?_
  unfold wp_X1_init
  refine ⟨by decide, Bk.al (o := 1) (ok := 1) (f := 2) (kd := 13) (len := 64) B2 (by decide) (by decide) (by decide) (by simp) (by decide) ⟨by omega, by omega⟩ fun g3 B3 N3 M3 => ?_⟩
  refine ⟨by decide, Bk.al (o := 1) (ok := 1) (f := 3) (kd := 14) (len := 10) B3 (by decide) (by decide) (by decide) (by simp) (by decide) ⟨by omega, by omega⟩ fun g4 B4 N4 M4 => ?_⟩
  refine ⟨by decide, Bk.al (o := 1) (ok := 1) (f := 4) (kd := 13) (len := 24) B4 (by decide) (by decide) (by decide) (by simp) (by decide) ⟨by omega, by omega⟩ fun g5 B5 N5 M5 => ?_⟩
  refine ⟨by decide, Bk.al (o := 1) (ok := 1) (f := 6) (kd := 13) (len := 8) B5 (by decide) (by decide) (by decide) (by simp) (by decide) ⟨by omega, by omega⟩ fun g6 B6 N6 M6 => ?_⟩
  refine ⟨by decide, Bk.al (o := 1) (ok := 1) (f := 7) (kd := 13) (len := 8) B6 (by decide) (by decide) (by decide) (by simp) (by decide) ⟨by omega, by omega⟩ fun g7 B7 N7 M7 => ?_⟩
  refine ⟨by decide, Bk.al (o := 1) (ok := 1) (f := 8) (kd := 13) (len := 8) B7 (by decide) (by decide) (by decide) (by simp) (by decide) ⟨by omega, by omega⟩ fun g8 B8 N8 M8 => ?_⟩
  refine ⟨by decide, Bk.al (o := 1) (ok := 1) (f := 9) (kd := 13) (len := 8) B8 (by decide) (by decide) (by decide) (by simp) (by decide) ⟨by omega, by omega⟩ fun g9 B9 N9 M9 => ?_⟩
  refine ⟨by decide, Bk.al (o := 1) (ok := 1) (f := 10) (kd := 13) (len := 8) B9 (by decide) (by decide) (by decide) (by simp) (by decide) ⟨by omega, by omega⟩ fun g10 B10 N10 M10 => ?_⟩
  refine ⟨by decide, Bk.al (o := 1) (ok := 1) (f := 12) (kd := 13) (len := 6) B10 (by decide) (by decide) (by decide) (by simp) (by decide) ⟨by omega, by omega⟩ fun g11 B11 N11 M11 => ?_⟩
  refine Bk.mk (kd := 4) (len := 6) B11 (by decide) (by simp) ⟨by omega, by omega⟩ fun g12 B12 N12 M12 => ?_
  unfold wp_X4_init
  refine ⟨by decide, Bk.al (o := 11) (ok := 4) (f := 1) (kd := 13) (len := 8) B12 (by decide) (by decide) (by decide) (by simp) (by decide) ⟨by omega, by omega⟩ fun g13 B13 N13 M13 => ?_⟩
  refine ⟨by decide, Bk.al (o := 11) (ok := 4) (f := 2) (kd := 13) (len := 8) B13 (by decide) (by decide) (by decide) (by simp) (by decide) ⟨by omega, by omega⟩ fun g14 B14 N14 M14 => ?_⟩
  refine ⟨by decide, Bk.al (o := 11) (ok := 4) (f := 3) (kd := 13) (len := 8) B14 (by decide) (by decide) (by decide) (by simp) (by decide) ⟨by omega, by omega⟩ fun g15 B15 N15 M15 => ?_⟩
  refine ⟨by decide, Bk.al (o := 11) (ok := 4) (f := 4) (kd := 13) (len := 8) B15 (by decide) (by decide) (by decide) (by simp) (by decide) ⟨by omega, by omega⟩ fun g16 B16 N16 M16 => ?_⟩
  refine ⟨by decide, Bk.al (o := 11) (ok := 4) (f := 5) (kd := 13) (len := 8) B16 (by decide) (by decide) (by decide) (by simp) (by decide) ⟨by omega, by omega⟩ fun g17 B17 N17 M17 => ?_⟩
  refine Bk.pt (o := 1) (ok := 1) (f := 14) (t := 11) B17 (by decide) (by decide) (by decide) fun g18 B18 N18 M18 => ?_
  refine Bk.mk (kd := 9) (len := 5) B18 (by decide) (by simp) ⟨by omega, by omega⟩ fun g19 B19 N19 M19 => ?_
  unfold wp_X10_init
  refine ⟨by decide, Bk.al (o := 17) (ok := 9) (f := 1) (kd := 13) (len := 10) B19 (by decide) (by decide) (by decide) (by simp) (by decide) ⟨by omega, by omega⟩ fun g20 B20 N20 M20 => ?_⟩
  refine ⟨by decide, Bk.al (o := 17) (ok := 9) (f := 2) (kd := 13) (len := 10) B20 (by decide) (by decide) (by decide) (by simp) (by decide) ⟨by omega, by omega⟩ fun g21 B21 N21 M21 => ?_⟩
  refine ⟨by decide, Bk.al (o := 17) (ok := 9) (f := 3) (kd := 13) (len := 10) B21 (by decide) (by decide) (by decide) (by simp) (by decide) ⟨by omega, by omega⟩ fun g22 B22 N22 M22 => ?_⟩
  refine ⟨by decide, Bk.al (o := 17) (ok := 9) (f := 4) (kd := 13) (len := 10) B22 (by decide) (by decide) (by decide) (by simp) (by decide) ⟨by omega, by omega⟩ fun g23 B23 N23 M23 => ?_⟩
  refine Bk.pt (o := 1) (ok := 1) (f := 15) (t := 17) B23 (by decide) (by decide) (by decide) fun g24 B24 N24 M24 => ?_
  refine ⟨B24.oo (o := 1) (by decide) (by decide), b + 4, B24.pp (by decide), c_fillI (x := b + 4) (L := 24) (v := 5) (B24.oo (by decide) (by decide)) (B24.ll (by decide) (by decide)) (by omega) (by omega) fun g25 F25 V25 _ => ?_⟩
  have B25 := B24.val (n := 24) (g := fun _ => 5) F25 (by decide) (by simp) (fun i i1 i2 => V25 i i1 (by omega))
  have N25 := F25.1
  have M25 := F25.2.1
  refine Bk.pt (o := 0) (ok := 5) (f := 0) (t := 1) B25 (by decide) (by decide) (by decide) fun g26 B26 N26 M26 => ?_
  refine Bk.mk (kd := 7) (len := 3) B26 (by decide) (by simp) ⟨by omega, by omega⟩ fun g27 B27 N27 M27 => ?_
  refine ⟨B27.oo (o := 0) (by decide) (by decide), b + 1, B27.pp (by decide), ?_⟩
  unfold wp_X8_init
  refine ⟨by decide, Bk.al (o := 22) (ok := 7) (f := 1) (kd := 13) (len := 8) B27 (by decide) (by decide) (by decide) (by simp) (by decide) ⟨by omega, by omega⟩ fun g28 B28 N28 M28 => ?_⟩
  refine ⟨by decide, Bk.al (o := 22) (ok := 7) (f := 2) (kd := 14) (len := 8) B28 (by decide) (by decide) (by decide) (by simp) (by decide) ⟨by omega, by omega⟩ fun g29 B29 N29 M29 => ?_⟩
  refine Bk.pt (o := 22) (ok := 7) (f := 0) (t := 1) B29 (by decide) (by decide) (by decide) fun g30 B30 N30 M30 => ?_
  refine Bk.pt (o := 0) (ok := 5) (f := 1) (t := 22) B30 (by decide) (by decide) (by decide) fun g31 B31 N31 M31 => ?_
  refine ⟨by decide, Bk.al (o := 0) (ok := 5) (f := 3) (kd := 13) (len := 60) B31 (by decide) (by decide) (by decide) (by simp) (by decide) ⟨by omega, by omega⟩ fun g32 B32 N32 M32 => ?_⟩
  refine ⟨by decide, Bk.al (o := 0) (ok := 5) (f := 4) (kd := 13) (len := 60) B32 (by decide) (by decide) (by decide) (by simp) (by decide) ⟨by omega, by omega⟩ fun g33 B33 N33 M33 => ?_⟩
  have tot : aS g33 ≤ aS h0 + 1000 := by omega
  refine k _ ⟨B33.1, tot, ?_, ?_, B33.pp (o := 22) (by decide), B33.2.2.2.1⟩
  · exact ⟨B33.oo (o := 0) (by decide) (by decide), B33.pp (o := 0) (by decide), B33.pp (o := 0) (by decide), ⟨B33.oo (o := 22) (by decide) (by decide), B33.pp (o := 22) (t := 23) (by decide), B33.oo (o := 23) (by decide) (by decide), B33.ll (o := 23) (by decide) (by decide), B33.pp (o := 22) (t := 24) (by decide), B33.oo (o := 24) (by decide) (by decide), B33.ll (o := 24) (by decide) (by decide)⟩, B33.pp (o := 0) (by decide), B33.oo (by decide) (by decide), B33.ll (by decide) (by decide), B33.pp (o := 0) (by decide), B33.oo (by decide) (by decide), B33.ll (by decide) (by decide)⟩
  · exact ⟨B33.oo (o := 1) (by decide) (by decide), B33.pp (o := 1) (f := 2) (t := 2) (by decide), B33.oo (o := 2) (by decide) (by decide), B33.ll (o := 2) (by decide) (by decide), B33.pp (o := 1) (f := 3) (t := 3) (by decide), B33.oo (o := 3) (by decide) (by decide), B33.ll (o := 3) (by decide) (by decide), B33.pp (o := 1) (f := 4) (t := 4) (by decide), B33.oo (o := 4) (by decide) (by decide), B33.ll (o := 4) (by decide) (by decide), B33.pp (o := 1) (f := 6) (t := 5) (by decide), B33.oo (o := 5) (by decide) (by decide), B33.ll (o := 5) (by decide) (by decide), B33.pp (o := 1) (f := 7) (t := 6) (by decide), B33.oo (o := 6) (by decide) (by decide), B33.ll (o := 6) (by decide) (by decide), B33.pp (o := 1) (f := 8) (t := 7) (by decide), B33.oo (o := 7) (by decide) (by decide), B33.ll (o := 7) (by decide) (by decide), B33.pp (o := 1) (f := 9) (t := 8) (by decide), B33.oo (o := 8) (by decide) (by decide), B33.ll (o := 8) (by decide) (by decide), B33.pp (o := 1) (f := 10) (t := 9) (by decide), B33.oo (o := 9) (by decide) (by decide), B33.ll (o := 9) (by decide) (by decide), B33.pp (o := 1) (f := 12) (t := 10) (by decide), B33.oo (o := 10) (by decide) (by decide), B33.ll (o := 10) (by decide) (by decide), B33.pp (o := 1) (f := 14) (t := 11) (by decide), B33.oo (o := 11) (by decide) (by decide), B33.pp (o := 1) (f := 15) (t := 17) (by decide), B33.oo (o := 17) (by decide) (by decide), B33.pp (o := 11) (f := 1) (t := 12) (by decide), B33.oo (o := 12) (by decide) (by decide), B33.ll (o := 12) (by decide) (by decide), B33.pp (o := 11) (f := 2) (t := 13) (by decide), B33.oo (o := 13) (by decide) (by decide), B33.ll (o := 13) (by decide) (by decide), B33.pp (o := 11) (f := 3) (t := 14) (by decide), B33.oo (o := 14) (by decide) (by decide), B33.ll (o := 14) (by decide) (by decide), B33.pp (o := 11) (f := 4) (t := 15) (by decide), B33.oo (o := 15) (by decide) (by decide), B33.ll (o := 15) (by decide) (by decide), B33.pp (o := 11) (f := 5) (t := 16) (by decide), B33.oo (o := 16) (by decide) (by decide), B33.ll (o := 16) (by decide) (by decide), B33.pp (o := 17) (f := 1) (t := 18) (by decide), B33.oo (o := 18) (by decide) (by decide), B33.ll (o := 18) (by decide) (by decide), B33.pp (o := 17) (f := 2) (t := 19) (by decide), B33.oo (o := 19) (by decide) (by decide), B33.ll (o := 19) (by decide) (by decide), B33.pp (o := 17) (f := 3) (t := 20) (by decide), B33.oo (o := 20) (by decide) (by decide), B33.ll (o := 20) (by decide) (by decide), B33.pp (o := 17) (f := 4) (t := 21) (by decide), B33.oo (o := 21) (by decide) (by decide), B33.ll (o := 21) (by decide) (by decide)⟩
end NEWSC
