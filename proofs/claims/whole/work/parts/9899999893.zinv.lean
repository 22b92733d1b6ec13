/-! what holds before the first call -/
def zcs3 : List (Nat × Nat) := (14, 1) :: zcs2
def zvs3 : List (Nat × List Int32) := (94, []) :: (95, []) :: zvs2
def l92 : List Int32 := wrL (wrL 53 [] 34 (-1)).length (wrL 53 [] 34 (-1)) 48 (-1)
def l74 : List Int32 := wrL 15 [] 14 (-1)
def l0 : List Int32 := wrL 15 [] 1 0
theorem l92_ok : ∀ n, n < 53 → n < l92.length ∧ (l92.getD n 0).toInt = if n = 34 ∨ n = 48 then -1 else 0 := by decide +kernel
theorem l74_ok : ∀ n, n < 15 → n < l74.length ∧ (l74.getD n 0).toInt = if n = 14 then -1 else 0 := by decide +kernel
theorem l0_ok : ∀ n, n < 15 → n < l0.length ∧ (l0.getD n 0).toInt = 0 := by decide +kernel
theorem fill5_ok : ∀ n, n < 24 → n < fill5.length ∧ (fill5.getD n 0).toInt = 5 := by decide +kernel
theorem csh_1 : ∀ p, p ∈ CShO → p.1 < zcs3.length ∧ (lk zcs3 p.1).1 = p.2 := by decide +kernel
theorem csh_2 : ∀ p, p ∈ CShL → p.1 < zcs3.length ∧ (lk zcs3 p.1).2 = p.2 := by decide +kernel
theorem csh_3 : ∀ p, p ∈ CShP → p ∈ zps2 := by decide +kernel
theorem GA_plain : GA plS := by
  obtain ⟨b1, b2, b3, b4, b5, b6, b7, b8, b9, b10, b11, b12⟩ := BA.plain
  exact ⟨b1, b2, b3, ⟨by rw [b9 249 (by omega)]; omega, fun i i0 i1 => by rw [b9 249 (by omega)] at i1; omega⟩, ⟨tS plS, b4, b5, b12, b6⟩, b4⟩
theorem inv_made {h : AH} {S : Nat} (B : Zb h zcs3 zps2 zvs3 [98] S) (hS : S ≤ 700000) (J : ∀ i, i < 18 → aJ h 98 i = zjw2.getD i 0) (V : ∀ i, rd h 94 i = if 75 ≤ i ∧ i < 99 then 5 else 0) : Inv h 0 32 5 76 78 := by
  have e94 : rd h 94 = plS := funext V
  have o : ∀ a k, (a < zcs3.length ∧ (lk zcs3 a).1 = k) → ob h a k := fun a k c => B.oo c
  have l : ∀ a k, (a < zcs3.length ∧ (lk zcs3 a).2 = k) → aL h a = k := fun a k c => B.ll c
  have p : ∀ a f t, ((a, f), t) ∈ zps2 → aP h a f = some t := fun a f t c => B.pp c
  have z : ∀ a, (a < zcs3.length ∧ a ∉ zvs3.map Prod.fst) → ∀ i, rd h a i = 0 := fun a c i => B.i0 c i
  have zj : ∀ a, (a < zcs3.length ∧ a ∉ [98]) → aJ h a = fun _ => 0 := fun a c => B.j0 c
  have r92 : ∀ n : Nat, n < 53 → rd h 92 n = if n = 34 ∨ n = 48 then -1 else 0 := fun n hn => (B.vv (o := 92) (l := l92) (by decide +kernel) (Int.natCast_nonneg n) (l92_ok n hn).1).trans (l92_ok n hn).2
  have r74 : ∀ n : Nat, n < 15 → rd h 74 n = if n = 14 then -1 else 0 := fun n hn => (B.vv (o := 74) (l := l74) (by decide +kernel) (Int.natCast_nonneg n) (l74_ok n hn).1).trans (l74_ok n hn).2
  have r0 : ∀ n : Nat, n < 15 → rd h 0 n = 0 := fun n hn => (B.vv (o := 0) (l := l0) (by decide +kernel) (Int.natCast_nonneg n) (l0_ok n hn).1).trans (l0_ok n hn).2
  have a92_2 : rd h 92 2 = 0 := (r92 2 (by omega)).trans (if_neg (by omega))
  have a92_15 : rd h 92 15 = 0 := (r92 15 (by omega)).trans (if_neg (by omega))
  have a92_34 : rd h 92 34 = -1 := (r92 34 (by omega)).trans (if_pos (by omega))
  have a92_40 : rd h 92 40 = 0 := (r92 40 (by omega)).trans (if_neg (by omega))
  have a92_48 : rd h 92 48 = -1 := (r92 48 (by omega)).trans (if_pos (by omega))
  have a74_9 : rd h 74 9 = 0 := (r74 9 (by omega)).trans (if_neg (by omega))
  have a74_13 : rd h 74 13 = 0 := (r74 13 (by omega)).trans (if_neg (by omega))
  have a74_14 : rd h 74 14 = -1 := (r74 14 (by omega)).trans (if_pos (by omega))
  have a0_1 : rd h 0 1 = 0 := r0 1 (by omega)
  have a0_2 : rd h 0 2 = 0 := r0 2 (by omega)
  have a0_11 : rd h 0 11 = 0 := r0 11 (by omega)
  have p0 : ∀ i, (i < 75 ∨ 99 ≤ i) → plS i = 0 := fun i hi => plS_0 hi
  have b5 : LB h 5 := ⟨o 5 _ (by decide +kernel), p 5 2 6 (by decide +kernel), o 6 _ (by decide +kernel), l 6 _ (by decide +kernel), p 5 3 7 (by decide +kernel), o 7 _ (by decide +kernel), l 7 _ (by decide +kernel), p 5 4 8 (by decide +kernel), o 8 _ (by decide +kernel), l 8 _ (by decide +kernel), p 5 6 9 (by decide +kernel), o 9 _ (by decide +kernel), l 9 _ (by decide +kernel), p 5 7 10 (by decide +kernel), o 10 _ (by decide +kernel), l 10 _ (by decide +kernel), p 5 8 11 (by decide +kernel), o 11 _ (by decide +kernel), l 11 _ (by decide +kernel), p 5 9 12 (by decide +kernel), o 12 _ (by decide +kernel), l 12 _ (by decide +kernel), p 5 10 13 (by decide +kernel), o 13 _ (by decide +kernel), l 13 _ (by decide +kernel), p 5 12 14 (by decide +kernel), o 14 _ (by decide +kernel), l 14 _ (by decide +kernel), p 5 14 15 (by decide +kernel), o 15 _ (by decide +kernel), p 5 15 21 (by decide +kernel), o 21 _ (by decide +kernel), p 15 1 16 (by decide +kernel), o 16 _ (by decide +kernel), l 16 _ (by decide +kernel), p 15 2 17 (by decide +kernel), o 17 _ (by decide +kernel), l 17 _ (by decide +kernel), p 15 3 18 (by decide +kernel), o 18 _ (by decide +kernel), l 18 _ (by decide +kernel), p 15 4 19 (by decide +kernel), o 19 _ (by decide +kernel), l 19 _ (by decide +kernel), p 15 5 20 (by decide +kernel), o 20 _ (by decide +kernel), l 20 _ (by decide +kernel), p 21 1 22 (by decide +kernel), o 22 _ (by decide +kernel), l 22 _ (by decide +kernel), p 21 2 23 (by decide +kernel), o 23 _ (by decide +kernel), l 23 _ (by decide +kernel), p 21 3 24 (by decide +kernel), o 24 _ (by decide +kernel), l 24 _ (by decide +kernel), p 21 4 25 (by decide +kernel), o 25 _ (by decide +kernel), l 25 _ (by decide +kernel)⟩
  have b32 : LB h 32 := ⟨o 32 _ (by decide +kernel), p 32 2 33 (by decide +kernel), o 33 _ (by decide +kernel), l 33 _ (by decide +kernel), p 32 3 34 (by decide +kernel), o 34 _ (by decide +kernel), l 34 _ (by decide +kernel), p 32 4 35 (by decide +kernel), o 35 _ (by decide +kernel), l 35 _ (by decide +kernel), p 32 6 36 (by decide +kernel), o 36 _ (by decide +kernel), l 36 _ (by decide +kernel), p 32 7 37 (by decide +kernel), o 37 _ (by decide +kernel), l 37 _ (by decide +kernel), p 32 8 38 (by decide +kernel), o 38 _ (by decide +kernel), l 38 _ (by decide +kernel), p 32 9 39 (by decide +kernel), o 39 _ (by decide +kernel), l 39 _ (by decide +kernel), p 32 10 40 (by decide +kernel), o 40 _ (by decide +kernel), l 40 _ (by decide +kernel), p 32 12 41 (by decide +kernel), o 41 _ (by decide +kernel), l 41 _ (by decide +kernel), p 32 14 42 (by decide +kernel), o 42 _ (by decide +kernel), p 32 15 48 (by decide +kernel), o 48 _ (by decide +kernel), p 42 1 43 (by decide +kernel), o 43 _ (by decide +kernel), l 43 _ (by decide +kernel), p 42 2 44 (by decide +kernel), o 44 _ (by decide +kernel), l 44 _ (by decide +kernel), p 42 3 45 (by decide +kernel), o 45 _ (by decide +kernel), l 45 _ (by decide +kernel), p 42 4 46 (by decide +kernel), o 46 _ (by decide +kernel), l 46 _ (by decide +kernel), p 42 5 47 (by decide +kernel), o 47 _ (by decide +kernel), l 47 _ (by decide +kernel), p 48 1 49 (by decide +kernel), o 49 _ (by decide +kernel), l 49 _ (by decide +kernel), p 48 2 50 (by decide +kernel), o 50 _ (by decide +kernel), l 50 _ (by decide +kernel), p 48 3 51 (by decide +kernel), o 51 _ (by decide +kernel), l 51 _ (by decide +kernel), p 48 4 52 (by decide +kernel), o 52 _ (by decide +kernel), l 52 _ (by decide +kernel)⟩
  have tb : TB h 53 := ⟨o 53 _ (by decide +kernel), p 53 1 54 (by decide +kernel), o 54 _ (by decide +kernel), l 54 _ (by decide +kernel), p 53 2 55 (by decide +kernel), o 55 _ (by decide +kernel), l 55 _ (by decide +kernel)⟩
  have no2 : ∀ {r : Int}, 0 ≤ r → r < plS 2 → False := fun r0 r1 => by rw [p0 2 (by omega)] at r1; omega
  have no3 : ∀ {r : Int}, 0 ≤ r → r < plS 3 → False := fun r0 r1 => by rw [p0 3 (by omega)] at r1; omega
  have no4 : ∀ {r : Int}, 0 ≤ r → r < plS 4 → False := fun r0 r1 => by rw [p0 4 (by omega)] at r1; omega
  have no5 : ∀ {r : Int}, 0 ≤ r → r < plS 5 → False := fun r0 r1 => by rw [p0 5 (by omega)] at r1; omega
  have lr : LR h 32 plS := ⟨by rw [z 32 (by decide +kernel), p0 0 (by omega)], by rw [z 32 (by decide +kernel), p0 1 (by omega)], by rw [z 32 (by decide +kernel), p0 2 (by omega)], by rw [z 32 (by decide +kernel), p0 3 (by omega)], by rw [z 42 (by decide +kernel), p0 4 (by omega)], by rw [z 48 (by decide +kernel), p0 5 (by omega)],
    fun x y x0 x1 y0 y1 => by rw [p0 0 (by omega)] at x1; omega, fun gg x y g0 g1 x0 x1 y0 y1 => by rw [zj 34 (by decide +kernel), p0 0 (by omega)]; exact ⟨fun u => absurd u (zb_0 _), fun u => by omega⟩,
    fun i i0 i1 => by
      rw [plS_5 (by omega)]
      have := fill5_ok i.toNat (by omega)
      exact (B.vv (o := 35) (l := fill5) (by decide +kernel) i0 this.1).trans this.2,
    fun r r0 r1 => (no2 r0 r1).elim, fun r r0 r1 => (no2 r0 r1).elim, fun r r0 r1 => (no2 r0 r1).elim, fun r r0 r1 => (no3 r0 r1).elim, fun r r0 r1 => (no4 r0 r1).elim, fun r r0 r1 => (no4 r0 r1).elim, fun r r0 r1 => (no4 r0 r1).elim, fun r r0 r1 => (no4 r0 r1).elim,
    fun r r0 r1 => by rw [z 47 (by decide +kernel), p0 _ (by omega)], fun r r0 r1 => (no5 r0 r1).elim, fun r r0 r1 => (no5 r0 r1).elim, fun r r0 r1 => (no5 r0 r1).elim, fun r r0 r1 => (no5 r0 r1).elim,
    fun x y x0 x1 y0 y1 => by rw [zj 32 (by decide +kernel), p0 6 (by omega), p0 8 (by omega)]; exact ⟨fun u => absurd u (zb_0 _), fun u => by omega⟩⟩
  have sk : SK h 31 32 := ⟨o 31 _ (by decide +kernel), p 31 0 32 (by decide +kernel), p 31 1 53 (by decide +kernel), tb, p 31 3 56 (by decide +kernel), o 56 _ (by decide +kernel), l 56 _ (by decide +kernel), p 31 4 57 (by decide +kernel), o 57 _ (by decide +kernel), l 57 _ (by decide +kernel)⟩
  have sc : Scn h 31 32 (rd h 94) (aJ h 97) := by
    rw [e94]
    refine ⟨sk, b32, lr, fun r r0 r1 => (no2 r0 r1).elim, ⟨tb, p 53 0 32 (by decide +kernel), fun r r0 r1 => (no2 r0 r1).elim, fun r r0 r1 => (no2 r0 r1).elim⟩, ?_, fun i i0 i1 => ?_⟩
    · rw [z 31 (by decide +kernel), p0 249 (by omega)]
    · rw [p0 249 (by omega)] at i1
      omega
  refine ⟨⟨fun q hq => B.oo (csh_1 q hq), fun q hq => B.ll (csh_2 q hq), fun q hq => B.pp (csh_3 q hq)⟩, ⟨o 92 _ (by decide +kernel), p 92 1 93 (by decide +kernel), o 93 _ (by decide +kernel), l 93 _ (by decide +kernel), p 92 6 94 (by decide +kernel), o 94 _ (by decide +kernel), l 94 _ (by decide +kernel), p 92 7 95 (by decide +kernel), o 95 _ (by decide +kernel), l 95 _ (by decide +kernel), p 92 8 96 (by decide +kernel), o 96 _ (by decide +kernel), l 96 _ (by decide +kernel), p 92 9 97 (by decide +kernel), o 97 _ (by decide +kernel), l 97 _ (by decide +kernel), p 92 10 98 (by decide +kernel), o 98 _ (by decide +kernel), l 98 _ (by decide +kernel), p 92 24 99 (by decide +kernel), o 99 _ (by decide +kernel), l 99 _ (by decide +kernel), p 92 25 100 (by decide +kernel), o 100 _ (by decide +kernel), l 100 _ (by decide +kernel), p 92 26 101 (by decide +kernel), o 101 _ (by decide +kernel), l 101 _ (by decide +kernel), p 92 32 102 (by decide +kernel), o 102 _ (by decide +kernel), l 102 _ (by decide +kernel), p 92 33 103 (by decide +kernel), o 103 _ (by decide +kernel), l 103 _ (by decide +kernel), p 92 35 104 (by decide +kernel), o 104 _ (by decide +kernel), l 104 _ (by decide +kernel), p 92 36 105 (by decide +kernel), o 105 _ (by decide +kernel), l 105 _ (by decide +kernel), p 92 37 106 (by decide +kernel), o 106 _ (by decide +kernel), l 106 _ (by decide +kernel), p 92 38 107 (by decide +kernel), o 107 _ (by decide +kernel), l 107 _ (by decide +kernel), p 92 39 108 (by decide +kernel), o 108 _ (by decide +kernel), l 108 _ (by decide +kernel), p 92 42 109 (by decide +kernel), o 109 _ (by decide +kernel), l 109 _ (by decide +kernel), p 92 43 110 (by decide +kernel), o 110 _ (by decide +kernel), l 110 _ (by decide +kernel), p 92 44 111 (by decide +kernel), o 111 _ (by decide +kernel), l 111 _ (by decide +kernel), p 92 45 112 (by decide +kernel), o 112 _ (by decide +kernel), l 112 _ (by decide +kernel), p 92 46 113 (by decide +kernel), o 113 _ (by decide +kernel), l 113 _ (by decide +kernel), p 92 47 114 (by decide +kernel), o 114 _ (by decide +kernel), l 114 _ (by decide +kernel), p 92 50 115 (by decide +kernel), o 115 _ (by decide +kernel), l 115 _ (by decide +kernel), p 92 51 116 (by decide +kernel), o 116 _ (by decide +kernel), l 116 _ (by decide +kernel), p 92 52 117 (by decide +kernel), o 117 _ (by decide +kernel), l 117 _ (by decide +kernel)⟩, o 118 _ (by decide +kernel), l 118 _ (by decide +kernel), Or.inr ⟨rfl, rfl⟩, p 2 12 5 (by decide +kernel), b5, sc, e94 ▸ GA_plain, ⟨fun i _ => z 99 (by decide +kernel) i, fun i _ => z 100 (by decide +kernel) i⟩, ?_, ?_, ?_, ?_, ?_, ?_, ?_, ?_⟩
  · refine ⟨by rw [a0_1, a92_2], by rw [a92_2]; omega, ?_, fun k => ?_⟩
    · funext i
      rw [z 1 (by decide +kernel), z 93 (by decide +kernel)]
    · rw [z 93 (by decide +kernel)]
      omega
  · show rd h 0 2 = rd h 92 15
    rw [a0_2, a92_15]
  · exact Or.inl ⟨a0_11, a92_34⟩
  · have q1 : aL h 76 = 256 := l 76 _ (by decide +kernel)
    have q2 : aL h 78 = 64 := l 78 _ (by decide +kernel)
    refine ⟨p 74 2 76 (by decide +kernel), o 76 _ (by decide +kernel), by rw [q1]; omega, p 74 8 78 (by decide +kernel), o 78 _ (by decide +kernel), by rw [q2]; omega, by rw [a74_9, a92_40], by rw [a92_40, q2]; omega, fun i i0 i1 => ?_, Or.inl rfl, Or.inl rfl⟩
    rw [a92_40] at i1
    omega
  · exact Or.inl ⟨a92_48, a74_13, a74_14⟩
  · have n0 : aP h 58 0 = none := B.pn (by decide +kernel)
    have n1 : aP h 58 1 = none := B.pn (by decide +kernel)
    refine ⟨Or.inl ⟨n0, z 117 (by decide +kernel) _⟩, Or.inl ⟨n1, z 117 (by decide +kernel) _⟩, fun sc sc' q _ => ?_⟩
    rw [n0] at q
    exact absurd q (by simp)
  · refine ⟨fun i i0 i1 => ?_, fun i i0 i1 => ?_, fun i i0 i1 => ?_⟩
    · exact (B.vv (o := 3) (l := tabL) (by decide +kernel) i0 (by show i.toNat < 18; omega)).trans (tab_w5 i.toNat (by omega))
    · exact (B.vv (o := 27) (l := tabL) (by decide +kernel) i0 (by show i.toNat < 18; omega)).trans (tab_w5 i.toNat (by omega))
    · rw [J i.toNat (by omega)]
      exact jw_ok i.toNat (by omega)
  · refine ⟨by rw [B.1]; exact Nat.le_of_ble_eq_true rfl, by rw [B.2.1]; omega⟩
theorem PLx (xs : Nat → Int32) (L : Nat) (hL : L ≤ 3072) : wp_L_law h00 xs L := by
  have Z0 : Zb h00 [] [] [] [] 0 := ⟨rfl, rfl, fun j hj => absurd hj (Nat.not_lt_zero _), fun q hq => absurd hq List.not_mem_nil, fun j k hj => absurd hj (Nat.not_lt_zero _), fun j hj => absurd hj (Nat.not_lt_zero _), fun j hj => absurd hj (Nat.not_lt_zero _), fun v hv => absurd hv List.not_mem_nil⟩
  unfold wp_L_law
  refine Zb.mk (kd := 10) (len := 15) (S' := 15) Z0 0 (by decide +kernel) fun h1 B1 => ?_
  refine c_made B1 fun h2 B2 => ?_
  refine Zb.mk (kd := 11) (len := 53) (S' := 11320) B2 92 (by decide +kernel) fun h3 B3 => ?_
  refine m_made B3 fun h4 B4 J V => ?_
  have n4 : aN h4 = 118 := B4.1.trans (by decide +kernel)
  have s4 : aS h4 = 639432 := B4.2.1
  refine ⟨by decide, ⟨by rw [n4]; omega, by rw [s4]; exact Nat.le_of_ble_eq_true rfl⟩, fun h5 r8 e5 e8 => ⟨513, ?_⟩⟩
  have B5 : Zb h5 zcs3 zps2 zvs3 [98] 639433 := e5 ▸ Zb.new (kd := 14) (len := 1) B4 rfl
  have I : Inv h5 0 32 5 76 78 := by
    refine inv_made B5 (by omega) (fun i hi => ?_) (fun i => ?_)
    · rw [e5]
      exact (congrFun (up_n (by omega)) i).trans (J i hi)
    · rw [← V i, e5]
      unfold rd
      rw [show aI (hNew h4 14 (1 : Int32).toNatClampNeg) 94 = aI h4 94 from up_n (by omega)]
  rw [e8, n4]
  exact law_loop hL 512 0 h5 ⟨32, 5, 76, 78, I⟩ (by omega) (by omega)
