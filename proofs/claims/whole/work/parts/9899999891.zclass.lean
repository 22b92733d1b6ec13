/-! the class made -/
def fill5 : List Int32 := List.replicate 24 5
theorem fill_l {h : AH} {x : Nat} (V : ∀ j : Int, 0 ≤ j → j < (24 : Nat) → rd h x j = 5) : ∀ i, i < fill5.length → aI h x i = fill5.getD i 0 := by
  intro i hi
  have hi : i < 24 := hi
  have e := V i (by omega) (by omega)
  unfold rd at e
  rw [if_pos (by omega), Int.toNat_natCast] at e
  have e5 : aI h x i = 5 := Int32.toInt_inj.mp (e.trans (by decide))
  rw [e5]
  unfold fill5
  rw [List.getD_eq_getElem?_getD, List.getElem?_replicate, if_pos hi]
  rfl
def zcs1 : List (Nat × Nat) := [(14, 8), (13, 8), (7, 3), (14, 8), (13, 4800), (14, 360), (13, 600), (13, 384), (14, 120), (13, 120), (13, 3), (0, 9), (13, 3), (13, 64), (13, 1024), (14, 256), (14, 1600), (6, 15), (14, 8), (13, 8), (7, 3), (8, 6), (14, 8), (13, 8), (7, 3), (8, 6), (14, 8), (13, 8), (7, 3), (8, 6), (14, 8), (13, 8), (7, 3), (16, 2), (13, 60), (13, 60), (14, 8), (13, 8), (7, 3), (13, 10), (13, 10), (13, 10), (13, 10), (9, 5), (13, 8), (13, 8), (13, 8), (13, 8), (13, 8), (4, 6), (13, 6), (13, 8), (13, 8), (13, 8), (13, 8), (13, 8), (13, 24), (14, 10), (13, 64), (1, 16), (5, 5), (13, 60), (13, 60), (12, 0), (13, 18), (3, 15), (13, 10), (13, 10), (13, 10), (13, 10), (9, 5), (13, 8), (13, 8), (13, 8), (13, 8), (13, 8), (4, 6), (13, 6), (13, 8), (13, 8), (13, 8), (13, 8), (13, 8), (13, 24), (14, 10), (13, 64), (1, 16), (12, 0), (13, 18), (2, 14), (12, 940), (10, 15)]
def zps1 : List ((Nat × Nat) × Nat) := [((0, 14), 74), ((74, 6), 89), ((89, 0), 32), ((89, 2), 91), ((89, 1), 90), ((74, 0), 80), ((80, 0), 32), ((80, 8), 88), ((80, 7), 87), ((80, 6), 86), ((80, 5), 85), ((80, 4), 84), ((80, 3), 83), ((80, 2), 82), ((80, 1), 81), ((74, 10), 79), ((74, 8), 78), ((74, 7), 77), ((74, 2), 76), ((74, 1), 75), ((0, 10), 70), ((70, 0), 71), ((71, 0), 32), ((71, 2), 73), ((71, 1), 72), ((0, 9), 66), ((66, 0), 67), ((67, 0), 32), ((67, 2), 69), ((67, 1), 68), ((0, 8), 62), ((62, 0), 63), ((63, 0), 32), ((63, 2), 65), ((63, 1), 64), ((0, 7), 59), ((59, 0), 32), ((59, 2), 61), ((59, 1), 60), ((0, 6), 58), ((0, 5), 31), ((31, 4), 57), ((31, 3), 56), ((31, 1), 53), ((53, 0), 32), ((53, 2), 55), ((53, 1), 54), ((31, 0), 32), ((32, 15), 48), ((48, 4), 52), ((48, 3), 51), ((48, 2), 50), ((48, 1), 49), ((32, 14), 42), ((42, 5), 47), ((42, 4), 46), ((42, 3), 45), ((42, 2), 44), ((42, 1), 43), ((32, 12), 41), ((32, 10), 40), ((32, 9), 39), ((32, 8), 38), ((32, 7), 37), ((32, 6), 36), ((32, 4), 35), ((32, 3), 34), ((32, 2), 33), ((0, 4), 26), ((26, 14), 30), ((26, 13), 29), ((26, 1), 28), ((26, 0), 27), ((0, 3), 2), ((2, 12), 5), ((5, 15), 21), ((21, 4), 25), ((21, 3), 24), ((21, 2), 23), ((21, 1), 22), ((5, 14), 15), ((15, 5), 20), ((15, 4), 19), ((15, 3), 18), ((15, 2), 17), ((15, 1), 16), ((5, 12), 14), ((5, 10), 13), ((5, 9), 12), ((5, 8), 11), ((5, 7), 10), ((5, 6), 9), ((5, 4), 8), ((5, 3), 7), ((5, 2), 6), ((2, 1), 4), ((2, 0), 3), ((0, 0), 1)]
def zvs1 : List (Nat × List Int32) := [(0, wrL 15 [] 1 0), (74, wrL 15 [] 14 (-1)), (35, fill5), (27, tabL), (8, fill5), (3, tabL)]
set_option maxRecDepth 100000 in
theorem c_made {h : AH} {postV : AH → Prop} (B0 : Zb h [(10, 15)] [] [] [] 15) (k : ∀ h', Zb h' zcs1 zps1 zvs1 [] 11267 → postV h') : wp_X11_init h 0 postV := by
  unfold wp_X11_init wp_X2_init wp_X3_init wp_X5_init wp_X1_init wp_X4_init wp_X10_init wp_X9_init wp_X6_init wp_X0_init wp_X8_init
  refine ⟨by decide, Zb.al (o := 0) (ok := 10) (f := 0) (kd := 12) (len := 940) (S' := 955) B0 1 (by decide +kernel) fun g1 B1 => ?_⟩
  clear B0
  refine Zb.mk (kd := 2) (len := 14) (S' := 969) B1 2 (by decide +kernel) fun g2 B2 => ?_
  clear B1
  refine c_textInit (ci := 2) (al := 2) (S' := 987) 3 B2 (by decide +kernel) fun g3 B3 => ?_
  clear B2
  refine Zb.mk (kd := 1) (len := 16) (S' := 1003) B3 5 (by decide +kernel) fun g4 B4 => ?_
  clear B3
  refine ⟨by decide, Zb.al (o := 5) (ok := 1) (f := 2) (kd := 13) (len := 64) (S' := 1067) B4 6 (by decide +kernel) fun g5 B5 => ?_⟩
  clear B4
  refine ⟨by decide, Zb.al (o := 5) (ok := 1) (f := 3) (kd := 14) (len := 10) (S' := 1077) B5 7 (by decide +kernel) fun g6 B6 => ?_⟩
  clear B5
  refine ⟨by decide, Zb.al (o := 5) (ok := 1) (f := 4) (kd := 13) (len := 24) (S' := 1101) B6 8 (by decide +kernel) fun g7 B7 => ?_⟩
  clear B6
  refine ⟨by decide, Zb.al (o := 5) (ok := 1) (f := 6) (kd := 13) (len := 8) (S' := 1109) B7 9 (by decide +kernel) fun g8 B8 => ?_⟩
  clear B7
  refine ⟨by decide, Zb.al (o := 5) (ok := 1) (f := 7) (kd := 13) (len := 8) (S' := 1117) B8 10 (by decide +kernel) fun g9 B9 => ?_⟩
  clear B8
  refine ⟨by decide, Zb.al (o := 5) (ok := 1) (f := 8) (kd := 13) (len := 8) (S' := 1125) B9 11 (by decide +kernel) fun g10 B10 => ?_⟩
  clear B9
  refine ⟨by decide, Zb.al (o := 5) (ok := 1) (f := 9) (kd := 13) (len := 8) (S' := 1133) B10 12 (by decide +kernel) fun g11 B11 => ?_⟩
  clear B10
  refine ⟨by decide, Zb.al (o := 5) (ok := 1) (f := 10) (kd := 13) (len := 8) (S' := 1141) B11 13 (by decide +kernel) fun g12 B12 => ?_⟩
  clear B11
  refine ⟨by decide, Zb.al (o := 5) (ok := 1) (f := 12) (kd := 13) (len := 6) (S' := 1147) B12 14 (by decide +kernel) fun g13 B13 => ?_⟩
  clear B12
  refine Zb.mk (kd := 4) (len := 6) (S' := 1153) B13 15 (by decide +kernel) fun g14 B14 => ?_
  clear B13
  refine ⟨by decide, Zb.al (o := 15) (ok := 4) (f := 1) (kd := 13) (len := 8) (S' := 1161) B14 16 (by decide +kernel) fun g15 B15 => ?_⟩
  clear B14
  refine ⟨by decide, Zb.al (o := 15) (ok := 4) (f := 2) (kd := 13) (len := 8) (S' := 1169) B15 17 (by decide +kernel) fun g16 B16 => ?_⟩
  clear B15
  refine ⟨by decide, Zb.al (o := 15) (ok := 4) (f := 3) (kd := 13) (len := 8) (S' := 1177) B16 18 (by decide +kernel) fun g17 B17 => ?_⟩
  clear B16
  refine ⟨by decide, Zb.al (o := 15) (ok := 4) (f := 4) (kd := 13) (len := 8) (S' := 1185) B17 19 (by decide +kernel) fun g18 B18 => ?_⟩
  clear B17
  refine ⟨by decide, Zb.al (o := 15) (ok := 4) (f := 5) (kd := 13) (len := 8) (S' := 1193) B18 20 (by decide +kernel) fun g19 B19 => ?_⟩
  clear B18
  refine Zb.pt (o := 5) (ok := 1) (f := 14) (t := 15) B19 (by decide +kernel) fun g20 B20 => ?_
  clear B19
  refine Zb.mk (kd := 9) (len := 5) (S' := 1198) B20 21 (by decide +kernel) fun g21 B21 => ?_
  clear B20
  refine ⟨by decide, Zb.al (o := 21) (ok := 9) (f := 1) (kd := 13) (len := 10) (S' := 1208) B21 22 (by decide +kernel) fun g22 B22 => ?_⟩
  clear B21
  refine ⟨by decide, Zb.al (o := 21) (ok := 9) (f := 2) (kd := 13) (len := 10) (S' := 1218) B22 23 (by decide +kernel) fun g23 B23 => ?_⟩
  clear B22
  refine ⟨by decide, Zb.al (o := 21) (ok := 9) (f := 3) (kd := 13) (len := 10) (S' := 1228) B23 24 (by decide +kernel) fun g24 B24 => ?_⟩
  clear B23
  refine ⟨by decide, Zb.al (o := 21) (ok := 9) (f := 4) (kd := 13) (len := 10) (S' := 1238) B24 25 (by decide +kernel) fun g25 B25 => ?_⟩
  clear B24
  refine Zb.pt (o := 5) (ok := 1) (f := 15) (t := 21) B25 (by decide +kernel) fun g26 B26 => ?_
  clear B25
  refine ⟨B26.oo (o := 5) (by decide +kernel), 8, B26.pp (by decide +kernel), c_fillI (x := 8) (L := 24) (v := 5) (B26.oo (by decide +kernel)) (B26.ll (by decide +kernel)) (by omega) (by omega) fun g27 F27 V27 _ => ?_⟩
  have B27 := B26.fr (l := fill5) F27 (by decide +kernel) (fill_l V27)
  clear B26 F27 V27
  refine Zb.pt (o := 2) (ok := 2) (f := 12) (t := 5) B27 (by decide +kernel) fun g28 B28 => ?_
  clear B27
  refine Zb.pt (o := 0) (ok := 10) (f := 3) (t := 2) B28 (by decide +kernel) fun g29 B29 => ?_
  clear B28
  refine Zb.mk (kd := 3) (len := 15) (S' := 1253) B29 26 (by decide +kernel) fun g30 B30 => ?_
  clear B29
  refine c_textInit (ci := 3) (al := 26) (S' := 1271) 27 B30 (by decide +kernel) fun g31 B31 => ?_
  clear B30
  refine ⟨by decide, Zb.al (o := 26) (ok := 3) (f := 13) (kd := 13) (len := 60) (S' := 1331) B31 29 (by decide +kernel) fun g32 B32 => ?_⟩
  clear B31
  refine ⟨by decide, Zb.al (o := 26) (ok := 3) (f := 14) (kd := 13) (len := 60) (S' := 1391) B32 30 (by decide +kernel) fun g33 B33 => ?_⟩
  clear B32
  refine Zb.pt (o := 0) (ok := 10) (f := 4) (t := 26) B33 (by decide +kernel) fun g34 B34 => ?_
  clear B33
  refine Zb.mk (kd := 5) (len := 5) (S' := 1396) B34 31 (by decide +kernel) fun g35 B35 => ?_
  clear B34
  refine Zb.mk (kd := 1) (len := 16) (S' := 1412) B35 32 (by decide +kernel) fun g36 B36 => ?_
  clear B35
  refine ⟨by decide, Zb.al (o := 32) (ok := 1) (f := 2) (kd := 13) (len := 64) (S' := 1476) B36 33 (by decide +kernel) fun g37 B37 => ?_⟩
  clear B36
  refine ⟨by decide, Zb.al (o := 32) (ok := 1) (f := 3) (kd := 14) (len := 10) (S' := 1486) B37 34 (by decide +kernel) fun g38 B38 => ?_⟩
  clear B37
  refine ⟨by decide, Zb.al (o := 32) (ok := 1) (f := 4) (kd := 13) (len := 24) (S' := 1510) B38 35 (by decide +kernel) fun g39 B39 => ?_⟩
  clear B38
  refine ⟨by decide, Zb.al (o := 32) (ok := 1) (f := 6) (kd := 13) (len := 8) (S' := 1518) B39 36 (by decide +kernel) fun g40 B40 => ?_⟩
  clear B39
  refine ⟨by decide, Zb.al (o := 32) (ok := 1) (f := 7) (kd := 13) (len := 8) (S' := 1526) B40 37 (by decide +kernel) fun g41 B41 => ?_⟩
  clear B40
  refine ⟨by decide, Zb.al (o := 32) (ok := 1) (f := 8) (kd := 13) (len := 8) (S' := 1534) B41 38 (by decide +kernel) fun g42 B42 => ?_⟩
  clear B41
  refine ⟨by decide, Zb.al (o := 32) (ok := 1) (f := 9) (kd := 13) (len := 8) (S' := 1542) B42 39 (by decide +kernel) fun g43 B43 => ?_⟩
  clear B42
  refine ⟨by decide, Zb.al (o := 32) (ok := 1) (f := 10) (kd := 13) (len := 8) (S' := 1550) B43 40 (by decide +kernel) fun g44 B44 => ?_⟩
  clear B43
  refine ⟨by decide, Zb.al (o := 32) (ok := 1) (f := 12) (kd := 13) (len := 6) (S' := 1556) B44 41 (by decide +kernel) fun g45 B45 => ?_⟩
  clear B44
  refine Zb.mk (kd := 4) (len := 6) (S' := 1562) B45 42 (by decide +kernel) fun g46 B46 => ?_
  clear B45
  refine ⟨by decide, Zb.al (o := 42) (ok := 4) (f := 1) (kd := 13) (len := 8) (S' := 1570) B46 43 (by decide +kernel) fun g47 B47 => ?_⟩
  clear B46
  refine ⟨by decide, Zb.al (o := 42) (ok := 4) (f := 2) (kd := 13) (len := 8) (S' := 1578) B47 44 (by decide +kernel) fun g48 B48 => ?_⟩
  clear B47
  refine ⟨by decide, Zb.al (o := 42) (ok := 4) (f := 3) (kd := 13) (len := 8) (S' := 1586) B48 45 (by decide +kernel) fun g49 B49 => ?_⟩
  clear B48
  refine ⟨by decide, Zb.al (o := 42) (ok := 4) (f := 4) (kd := 13) (len := 8) (S' := 1594) B49 46 (by decide +kernel) fun g50 B50 => ?_⟩
  clear B49
  refine ⟨by decide, Zb.al (o := 42) (ok := 4) (f := 5) (kd := 13) (len := 8) (S' := 1602) B50 47 (by decide +kernel) fun g51 B51 => ?_⟩
  clear B50
  refine Zb.pt (o := 32) (ok := 1) (f := 14) (t := 42) B51 (by decide +kernel) fun g52 B52 => ?_
  clear B51
  refine Zb.mk (kd := 9) (len := 5) (S' := 1607) B52 48 (by decide +kernel) fun g53 B53 => ?_
  clear B52
  refine ⟨by decide, Zb.al (o := 48) (ok := 9) (f := 1) (kd := 13) (len := 10) (S' := 1617) B53 49 (by decide +kernel) fun g54 B54 => ?_⟩
  clear B53
  refine ⟨by decide, Zb.al (o := 48) (ok := 9) (f := 2) (kd := 13) (len := 10) (S' := 1627) B54 50 (by decide +kernel) fun g55 B55 => ?_⟩
  clear B54
  refine ⟨by decide, Zb.al (o := 48) (ok := 9) (f := 3) (kd := 13) (len := 10) (S' := 1637) B55 51 (by decide +kernel) fun g56 B56 => ?_⟩
  clear B55
  refine ⟨by decide, Zb.al (o := 48) (ok := 9) (f := 4) (kd := 13) (len := 10) (S' := 1647) B56 52 (by decide +kernel) fun g57 B57 => ?_⟩
  clear B56
  refine Zb.pt (o := 32) (ok := 1) (f := 15) (t := 48) B57 (by decide +kernel) fun g58 B58 => ?_
  clear B57
  refine ⟨B58.oo (o := 32) (by decide +kernel), 35, B58.pp (by decide +kernel), c_fillI (x := 35) (L := 24) (v := 5) (B58.oo (by decide +kernel)) (B58.ll (by decide +kernel)) (by omega) (by omega) fun g59 F59 V59 _ => ?_⟩
  have B59 := B58.fr (l := fill5) F59 (by decide +kernel) (fill_l V59)
  clear B58 F59 V59
  refine Zb.pt (o := 31) (ok := 5) (f := 0) (t := 32) B59 (by decide +kernel) fun g60 B60 => ?_
  clear B59
  refine Zb.mk (kd := 7) (len := 3) (S' := 1650) B60 53 (by decide +kernel) fun g61 B61 => ?_
  clear B60
  refine ⟨B61.oo (o := 31) (by decide +kernel), 32, B61.pp (by decide +kernel), ?_⟩
  refine ⟨by decide, Zb.al (o := 53) (ok := 7) (f := 1) (kd := 13) (len := 8) (S' := 1658) B61 54 (by decide +kernel) fun g62 B62 => ?_⟩
  clear B61
  refine ⟨by decide, Zb.al (o := 53) (ok := 7) (f := 2) (kd := 14) (len := 8) (S' := 1666) B62 55 (by decide +kernel) fun g63 B63 => ?_⟩
  clear B62
  refine Zb.pt (o := 53) (ok := 7) (f := 0) (t := 32) B63 (by decide +kernel) fun g64 B64 => ?_
  clear B63
  refine Zb.pt (o := 31) (ok := 5) (f := 1) (t := 53) B64 (by decide +kernel) fun g65 B65 => ?_
  clear B64
  refine ⟨by decide, Zb.al (o := 31) (ok := 5) (f := 3) (kd := 13) (len := 60) (S' := 1726) B65 56 (by decide +kernel) fun g66 B66 => ?_⟩
  clear B65
  refine ⟨by decide, Zb.al (o := 31) (ok := 5) (f := 4) (kd := 13) (len := 60) (S' := 1786) B66 57 (by decide +kernel) fun g67 B67 => ?_⟩
  clear B66
  refine Zb.pt (o := 0) (ok := 10) (f := 5) (t := 31) B67 (by decide +kernel) fun g68 B68 => ?_
  clear B67
  refine ⟨by decide, Zb.al (o := 0) (ok := 10) (f := 6) (kd := 16) (len := 2) (S' := 1788) B68 58 (by decide +kernel) fun g69 B69 => ?_⟩
  clear B68
  refine Zb.mk (kd := 7) (len := 3) (S' := 1791) B69 59 (by decide +kernel) fun g70 B70 => ?_
  clear B69
  refine ⟨B70.oo (o := 0) (by decide +kernel), 31, B70.pp (by decide +kernel), B70.oo (o := 31) (by decide +kernel), 32, B70.pp (by decide +kernel), ?_⟩
  refine ⟨by decide, Zb.al (o := 59) (ok := 7) (f := 1) (kd := 13) (len := 8) (S' := 1799) B70 60 (by decide +kernel) fun g71 B71 => ?_⟩
  clear B70
  refine ⟨by decide, Zb.al (o := 59) (ok := 7) (f := 2) (kd := 14) (len := 8) (S' := 1807) B71 61 (by decide +kernel) fun g72 B72 => ?_⟩
  clear B71
  refine Zb.pt (o := 59) (ok := 7) (f := 0) (t := 32) B72 (by decide +kernel) fun g73 B73 => ?_
  clear B72
  refine Zb.pt (o := 0) (ok := 10) (f := 7) (t := 59) B73 (by decide +kernel) fun g74 B74 => ?_
  clear B73
  refine Zb.mk (kd := 8) (len := 6) (S' := 1813) B74 62 (by decide +kernel) fun g75 B75 => ?_
  clear B74
  refine ⟨B75.oo (o := 0) (by decide +kernel), 31, B75.pp (by decide +kernel), B75.oo (o := 31) (by decide +kernel), 32, B75.pp (by decide +kernel), ?_⟩
  refine Zb.mk (kd := 7) (len := 3) (S' := 1816) B75 63 (by decide +kernel) fun g76 B76 => ?_
  clear B75
  refine ⟨by decide, Zb.al (o := 63) (ok := 7) (f := 1) (kd := 13) (len := 8) (S' := 1824) B76 64 (by decide +kernel) fun g77 B77 => ?_⟩
  clear B76
  refine ⟨by decide, Zb.al (o := 63) (ok := 7) (f := 2) (kd := 14) (len := 8) (S' := 1832) B77 65 (by decide +kernel) fun g78 B78 => ?_⟩
  clear B77
  refine Zb.pt (o := 63) (ok := 7) (f := 0) (t := 32) B78 (by decide +kernel) fun g79 B79 => ?_
  clear B78
  refine Zb.pt (o := 62) (ok := 8) (f := 0) (t := 63) B79 (by decide +kernel) fun g80 B80 => ?_
  clear B79
  refine Zb.pt (o := 0) (ok := 10) (f := 8) (t := 62) B80 (by decide +kernel) fun g81 B81 => ?_
  clear B80
  refine Zb.mk (kd := 8) (len := 6) (S' := 1838) B81 66 (by decide +kernel) fun g82 B82 => ?_
  clear B81
  refine ⟨B82.oo (o := 0) (by decide +kernel), 31, B82.pp (by decide +kernel), B82.oo (o := 31) (by decide +kernel), 32, B82.pp (by decide +kernel), ?_⟩
  refine Zb.mk (kd := 7) (len := 3) (S' := 1841) B82 67 (by decide +kernel) fun g83 B83 => ?_
  clear B82
  refine ⟨by decide, Zb.al (o := 67) (ok := 7) (f := 1) (kd := 13) (len := 8) (S' := 1849) B83 68 (by decide +kernel) fun g84 B84 => ?_⟩
  clear B83
  refine ⟨by decide, Zb.al (o := 67) (ok := 7) (f := 2) (kd := 14) (len := 8) (S' := 1857) B84 69 (by decide +kernel) fun g85 B85 => ?_⟩
  clear B84
  refine Zb.pt (o := 67) (ok := 7) (f := 0) (t := 32) B85 (by decide +kernel) fun g86 B86 => ?_
  clear B85
  refine Zb.pt (o := 66) (ok := 8) (f := 0) (t := 67) B86 (by decide +kernel) fun g87 B87 => ?_
  clear B86
  refine Zb.pt (o := 0) (ok := 10) (f := 9) (t := 66) B87 (by decide +kernel) fun g88 B88 => ?_
  clear B87
  refine Zb.mk (kd := 8) (len := 6) (S' := 1863) B88 70 (by decide +kernel) fun g89 B89 => ?_
  clear B88
  refine ⟨B89.oo (o := 0) (by decide +kernel), 31, B89.pp (by decide +kernel), B89.oo (o := 31) (by decide +kernel), 32, B89.pp (by decide +kernel), ?_⟩
  refine Zb.mk (kd := 7) (len := 3) (S' := 1866) B89 71 (by decide +kernel) fun g90 B90 => ?_
  clear B89
  refine ⟨by decide, Zb.al (o := 71) (ok := 7) (f := 1) (kd := 13) (len := 8) (S' := 1874) B90 72 (by decide +kernel) fun g91 B91 => ?_⟩
  clear B90
  refine ⟨by decide, Zb.al (o := 71) (ok := 7) (f := 2) (kd := 14) (len := 8) (S' := 1882) B91 73 (by decide +kernel) fun g92 B92 => ?_⟩
  clear B91
  refine Zb.pt (o := 71) (ok := 7) (f := 0) (t := 32) B92 (by decide +kernel) fun g93 B93 => ?_
  clear B92
  refine Zb.pt (o := 70) (ok := 8) (f := 0) (t := 71) B93 (by decide +kernel) fun g94 B94 => ?_
  clear B93
  refine Zb.pt (o := 0) (ok := 10) (f := 10) (t := 70) B94 (by decide +kernel) fun g95 B95 => ?_
  clear B94
  refine Zb.mk (kd := 6) (len := 15) (S' := 1897) B95 74 (by decide +kernel) fun g96 B96 => ?_
  clear B95
  refine ⟨B96.oo (o := 0) (by decide +kernel), 31, B96.pp (by decide +kernel), B96.oo (o := 31) (by decide +kernel), 32, B96.pp (by decide +kernel), ?_⟩
  refine ⟨by decide, Zb.al (o := 74) (ok := 6) (f := 1) (kd := 14) (len := 1600) (S' := 3497) B96 75 (by decide +kernel) fun g97 B97 => ?_⟩
  clear B96
  refine ⟨by decide, Zb.al (o := 74) (ok := 6) (f := 2) (kd := 14) (len := 256) (S' := 3753) B97 76 (by decide +kernel) fun g98 B98 => ?_⟩
  clear B97
  refine ⟨by decide, Zb.al (o := 74) (ok := 6) (f := 7) (kd := 13) (len := 1024) (S' := 4777) B98 77 (by decide +kernel) fun g99 B99 => ?_⟩
  clear B98
  refine ⟨by decide, Zb.al (o := 74) (ok := 6) (f := 8) (kd := 13) (len := 64) (S' := 4841) B99 78 (by decide +kernel) fun g100 B100 => ?_⟩
  clear B99
  refine ⟨by decide, Zb.al (o := 74) (ok := 6) (f := 10) (kd := 13) (len := 3) (S' := 4844) B100 79 (by decide +kernel) fun g101 B101 => ?_⟩
  clear B100
  refine ⟨B101.oo (o := 74) (by decide +kernel), fun g102 e102 => ?_⟩
  have B102 := B101.w0 (o := 74) (by decide +kernel) 15 e102
  clear B101 e102
  refine Zb.mk (kd := 0) (len := 9) (S' := 4853) B102 80 (by decide +kernel) fun g103 B103 => ?_
  clear B102
  refine ⟨by decide, Zb.al (o := 80) (ok := 0) (f := 1) (kd := 13) (len := 3) (S' := 4856) B103 81 (by decide +kernel) fun g104 B104 => ?_⟩
  clear B103
  refine ⟨by decide, Zb.al (o := 80) (ok := 0) (f := 2) (kd := 13) (len := 120) (S' := 4976) B104 82 (by decide +kernel) fun g105 B105 => ?_⟩
  clear B104
  refine ⟨by decide, Zb.al (o := 80) (ok := 0) (f := 3) (kd := 14) (len := 120) (S' := 5096) B105 83 (by decide +kernel) fun g106 B106 => ?_⟩
  clear B105
  refine ⟨by decide, Zb.al (o := 80) (ok := 0) (f := 4) (kd := 13) (len := 384) (S' := 5480) B106 84 (by decide +kernel) fun g107 B107 => ?_⟩
  clear B106
  refine ⟨by decide, Zb.al (o := 80) (ok := 0) (f := 5) (kd := 13) (len := 600) (S' := 6080) B107 85 (by decide +kernel) fun g108 B108 => ?_⟩
  clear B107
  refine ⟨by decide, Zb.al (o := 80) (ok := 0) (f := 6) (kd := 14) (len := 360) (S' := 6440) B108 86 (by decide +kernel) fun g109 B109 => ?_⟩
  clear B108
  refine ⟨by decide, Zb.al (o := 80) (ok := 0) (f := 7) (kd := 13) (len := 4800) (S' := 11240) B109 87 (by decide +kernel) fun g110 B110 => ?_⟩
  clear B109
  refine ⟨by decide, Zb.al (o := 80) (ok := 0) (f := 8) (kd := 14) (len := 8) (S' := 11248) B110 88 (by decide +kernel) fun g111 B111 => ?_⟩
  clear B110
  refine Zb.pt (o := 80) (ok := 0) (f := 0) (t := 32) B111 (by decide +kernel) fun g112 B112 => ?_
  clear B111
  refine Zb.pt (o := 74) (ok := 6) (f := 0) (t := 80) B112 (by decide +kernel) fun g113 B113 => ?_
  clear B112
  refine Zb.mk (kd := 7) (len := 3) (S' := 11251) B113 89 (by decide +kernel) fun g114 B114 => ?_
  clear B113
  refine ⟨by decide, Zb.al (o := 89) (ok := 7) (f := 1) (kd := 13) (len := 8) (S' := 11259) B114 90 (by decide +kernel) fun g115 B115 => ?_⟩
  clear B114
  refine ⟨by decide, Zb.al (o := 89) (ok := 7) (f := 2) (kd := 14) (len := 8) (S' := 11267) B115 91 (by decide +kernel) fun g116 B116 => ?_⟩
  clear B115
  refine Zb.pt (o := 89) (ok := 7) (f := 0) (t := 32) B116 (by decide +kernel) fun g117 B117 => ?_
  clear B116
  refine Zb.pt (o := 74) (ok := 6) (f := 6) (t := 89) B117 (by decide +kernel) fun g118 B118 => ?_
  clear B117
  refine Zb.pt (o := 0) (ok := 10) (f := 14) (t := 74) B118 (by decide +kernel) fun g119 B119 => ?_
  clear B118
  refine ⟨B119.oo (o := 0) (by decide +kernel), fun g120 e120 => ?_⟩
  have B120 := B119.w0 (o := 0) (by decide +kernel) 15 e120
  clear B119 e120
  exact k _ B120
