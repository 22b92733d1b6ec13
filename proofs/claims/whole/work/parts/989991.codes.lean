/-! TOWNS as numbers -/
def p50 (r : Int) : Int := if r = 0 then 1 else if r = 1 then 50 else 2500
def dgB (v r : Int) : Int := v / p50 r % 50
def tuB (s t0 : Int → Int) (v : Int) : Int → Int := fun j => if 0 ≤ j ∧ j < 3 * s 2 then (if j % 3 = 0 then dgB v (j / 3) / 2 % s 0 else if j % 3 = 1 then dgB v (j / 3) / 2 / s 0 else dgB v (j / 3) % 2) else t0 j
def plB (s t : Int → Int) (r : Int) : Int := 2 * (s 0 * t (3 * r + 1) + t (3 * r)) + t (3 * r + 2)
def cdB (s t : Int → Int) : Int := (if 0 < s 2 then plB s t 0 else 0) + 50 * (if 1 < s 2 then plB s t 1 else 0) + 2500 * (if 2 < s 2 then plB s t 2 else 0)
def rgB (s : Int → Int) (v : Int) : Prop := 0 ≤ v ∧ v < (if s 2 = 0 then 1 else if s 2 = 1 then 50 else if s 2 = 2 then 2500 else 125000)
def VB (s t0 z : Int → Int) (v : Int) : Prop := rgB s v ∧ VT s (tuB s t0 v) z
noncomputable def nxB (s t0 z : Int → Int) (hr v a : Int) : Int := iteP (whyT s (tuB s t0 v) z (a / 5) (a % 5) hr = 0) (cdB s (candT s (tuB s t0 v) z (a / 5) (a % 5))) (-1)
noncomputable def nmr (s t : Int → Int) (r : Int) : Int := iteP (r < s 2) (nmB s r (enc t r)) 0
noncomputable def csT (s t : Int → Int) : Int := 4096 * nmr s t 0 + 64 * nmr s t 1 + nmr s t 2
noncomputable def csB (s t0 : Int → Int) (v : Int) : Int := csT s (tuB s t0 v)
section COD
variable {a b c d f i j k v w x y r hr how u : Int} {s t t' t0 z : Int → Int}
theorem tu_0 (h1 : 0 ≤ r) (h2 : r < s 2) : tuB s t0 v (3 * r) = dgB v r / 2 % s 0 := by
  unfold tuB
  rw [if_pos (by omega), if_pos (by omega), show 3 * r / 3 = r by omega]
theorem tu_1 (h1 : 0 ≤ r) (h2 : r < s 2) : tuB s t0 v (3 * r + 1) = dgB v r / 2 / s 0 := by
  unfold tuB
  rw [if_pos (by omega), if_neg (by omega), if_pos (by omega), show (3 * r + 1) / 3 = r by omega]
theorem tu_2 (h1 : 0 ≤ r) (h2 : r < s 2) : tuB s t0 v (3 * r + 2) = dgB v r % 2 := by
  unfold tuB
  rw [if_pos (by omega), if_neg (by omega), if_neg (by omega), show (3 * r + 2) / 3 = r by omega]
theorem tu_n (h1 : j < 0 ∨ 3 * s 2 ≤ j) : tuB s t0 v j = t0 j := by
  unfold tuB
  rw [if_neg (by omega)]
theorem pl_b (fw : few s) (hS : Spot t z r) (hI : insT s t z r) (hZ : Z1 z r) : 0 ≤ plB s t r ∧ plB s t r < 50 := by
  obtain ⟨⟨a1, a2⟩, ⟨b1, b2⟩, ⟨u1, u2⟩, -⟩ := hS
  obtain ⟨_, _, i3, i4⟩ := hI
  have w := wd_Z (t := t) (z := z) (r := r) ⟨by omega, by omega, u1, u2⟩ hZ
  have m : s 0 * (t (3 * r + 1) + 1) ≤ s 0 * s 1 := Int.mul_le_mul_of_nonneg_left (by omega) (by omega)
  have m0 : 0 ≤ s 0 * t (3 * r + 1) := Int.mul_nonneg (by omega) b1
  rw [Int.mul_add] at m
  have := fw.2
  unfold plB
  omega
theorem dg_0 : dgB v 0 = v % 50 := by unfold dgB p50; simp
theorem dg_1 : dgB v 1 = v / 50 % 50 := by unfold dgB p50; simp
theorem dg_2 : dgB v 2 = v / 2500 % 50 := by unfold dgB p50; simp
theorem dg_cd (h3 : s 2 ≤ 3) (hb : ∀ r, 0 ≤ r → r < s 2 → 0 ≤ plB s t r ∧ plB s t r < 50) (h1 : 0 ≤ r) (h2 : r < s 2) : dgB (cdB s t) r = plB s t r := by
  have e : r = 0 ∨ r = 1 ∨ r = 2 := by omega
  have q : ∀ r, 0 ≤ r → 0 ≤ (if r < s 2 then plB s t r else 0) ∧ (if r < s 2 then plB s t r else 0) < 50 := fun r r0 => by
    split
    · rename_i c; exact hb r r0 c
    · omega
  have c0 := q 0 (by omega)
  have c1 := q 1 (by omega)
  have c2 := q 2 (by omega)
  have f : plB s t r = (if r < s 2 then plB s t r else 0) := by rw [if_pos h2]
  rw [f]
  unfold cdB
  rcases e with e | e | e
  · rw [e, dg_0]; omega
  · rw [e, dg_1]; omega
  · rw [e, dg_2]; omega
theorem cd_rg (h0 : 0 ≤ s 2) (h3 : s 2 ≤ 3) (hb : ∀ r, 0 ≤ r → r < s 2 → 0 ≤ plB s t r ∧ plB s t r < 50) : rgB s (cdB s t) := by
  have c0 := hb 0 (by omega)
  have c1 := hb 1 (by omega)
  have c2 := hb 2 (by omega)
  unfold rgB cdB
  generalize plB s t 0 = p0 at *
  generalize plB s t 1 = p1 at *
  generalize plB s t 2 = p2 at *
  have e : s 2 = 0 ∨ s 2 = 1 ∨ s 2 = 2 ∨ s 2 = 3 := by omega
  rcases e with e | e | e | e
  · rw [e]; simp
  · have := c0 (by omega)
    rw [e]; simp; omega
  · have := c0 (by omega)
    have := c1 (by omega)
    rw [e]; simp; omega
  · have := c0 (by omega)
    have := c1 (by omega)
    have := c2 (by omega)
    rw [e]; simp; omega
theorem tu_cd (h3 : s 2 ≤ 3) (hb : ∀ r, 0 ≤ r → r < s 2 → 0 ≤ plB s t r ∧ plB s t r < 50) (V : VT s t z) (hZ : ∀ r, 0 ≤ r → r < s 2 → Z1 z r) (ho : ∀ j, j < 0 ∨ 3 * s 2 ≤ j → t j = t0 j) : tuB s t0 (cdB s t) = t := by
  funext j
  by_cases cj : j < 0 ∨ 3 * s 2 ≤ j
  · rw [tu_n cj, ho j cj]
  · have h1 : 0 ≤ j / 3 := by omega
    have h2 : j / 3 < s 2 := by omega
    obtain ⟨⟨⟨a1, a2⟩, ⟨b1, b2⟩, ⟨u1, u2⟩, -⟩, ⟨_, _, i3, i4⟩, -⟩ := V (j / 3) h1 h2
    have w := wd_Z (t := t) (z := z) (r := j / 3) ⟨by omega, by omega, u1, u2⟩ (hZ _ h1 h2)
    have dg := dg_cd (t := t) h3 hb h1 h2
    have d2 : plB s t (j / 3) / 2 = t (3 * (j / 3)) + s 0 * t (3 * (j / 3) + 1) := by
      unfold plB
      generalize s 0 * t (3 * (j / 3) + 1) = m
      omega
    have e : j = 3 * (j / 3) ∨ j = 3 * (j / 3) + 1 ∨ j = 3 * (j / 3) + 2 := by omega
    rcases e with e | e | e
    · rw [e, tu_0 h1 h2, dg, d2, Int.add_mul_emod_self_left, Int.emod_eq_of_lt a1 (by omega)]
    · rw [e, tu_1 h1 h2, dg, d2, Int.add_mul_ediv_left _ _ (by omega), Int.ediv_eq_zero_of_lt a1 (by omega)]
      omega
    · rw [e, tu_2 h1 h2, dg]
      unfold plB
      generalize s 0 * t (3 * (j / 3) + 1) = m
      omega
theorem pl_tu (h1 : 0 ≤ r) (h2 : r < s 2) : plB s (tuB s t0 v) r = dgB v r := by
  unfold plB
  rw [tu_0 h1 h2, tu_1 h1 h2, tu_2 h1 h2]
  have := Int.mul_ediv_add_emod (dgB v r / 2) (s 0)
  omega
theorem cd_tu (h0 : 0 ≤ s 2) (h3 : s 2 ≤ 3) (hv : rgB s v) : cdB s (tuB s t0 v) = v := by
  obtain ⟨v0, v1⟩ := hv
  have e : s 2 = 0 ∨ s 2 = 1 ∨ s 2 = 2 ∨ s 2 = 3 := by omega
  have q0 := pl_tu (s := s) (t0 := t0) (v := v) (r := 0) (by omega)
  have q1 := pl_tu (s := s) (t0 := t0) (v := v) (r := 1) (by omega)
  have q2 := pl_tu (s := s) (t0 := t0) (v := v) (r := 2) (by omega)
  have f0 := dg_0 (v := v)
  have f1 := dg_1 (v := v)
  have f2 := dg_2 (v := v)
  unfold cdB
  rcases e with e | e | e | e
  · rw [if_neg (by omega), if_neg (by omega), if_neg (by omega)]
    rw [e, if_pos rfl] at v1; omega
  · rw [if_pos (by omega), if_neg (by omega), if_neg (by omega), q0 (by omega), f0]
    rw [e, if_neg (by omega), if_pos rfl] at v1; omega
  · rw [if_pos (by omega), if_pos (by omega), if_neg (by omega), q0 (by omega), q1 (by omega), f0, f1]
    rw [e, if_neg (by omega), if_neg (by omega), if_pos rfl] at v1; omega
  · rw [if_pos (by omega), if_pos (by omega), if_pos (by omega), q0 (by omega), q1 (by omega), q2 (by omega), f0, f1, f2]
    rw [e, if_neg (by omega), if_neg (by omega), if_neg (by omega)] at v1; omega
theorem rg_b (hv : rgB s v) : 0 ≤ v ∧ v < 125000 := by
  unfold rgB at hv
  obtain ⟨a, b⟩ := hv
  refine ⟨a, ?_⟩
  split at b
  · omega
  · split at b
    · omega
    · split at b <;> omega
theorem Z1s (gs : GS s) (e : EZ z s) : ∀ r, 0 ≤ r → r < s 2 → Z1 z r := fun _ h1 h2 => Z1.of e gs.2.1 h1 h2 gs.1.2.2.2.1
theorem VB.of (gs : GS s) (fw : few s) (e : EZ z s) (V : VT s t z) (ho : ∀ j, j < 0 ∨ 3 * s 2 ≤ j → t j = t0 j) : VB s t0 z (cdB s t) ∧ tuB s t0 (cdB s t) = t := by
  have hZ := Z1s gs e
  have hb : ∀ r, 0 ≤ r → r < s 2 → 0 ≤ plB s t r ∧ plB s t r < 50 := fun r h1 h2 => pl_b fw (V r h1 h2).1 (V r h1 h2).2.1 (hZ r h1 h2)
  have b2 := gs.1.1 2 (by omega) (by omega)
  have et := tu_cd (t0 := t0) fw.1 hb V hZ ho
  exact ⟨⟨cd_rg b2.1 fw.1 hb, by rw [et]; exact V⟩, et⟩
/-- where ACTS lead is a TOWN again -/
theorem nxB_V (gs : GS s) (fw : few s) (e : EZ z s) (a0 : 0 ≤ a) (a1 : a < 5 * s 2) (hv : VB s t0 z v) (c : whyT s (tuB s t0 v) z (a / 5) (a % 5) hr = 0) : VB s t0 z (nxB s t0 z hr v a) ∧ tuB s t0 (nxB s t0 z hr v a) = candT s (tuB s t0 v) z (a / 5) (a % 5) ∧ nxB s t0 z hr v a = cdB s (candT s (tuB s t0 v) z (a / 5) (a % 5)) := by
  have n0 : s 0 ≤ 8 := gs.1.2.1
  have n1 : s 1 ≤ 8 := gs.1.2.2.1
  have hZ := Z1s gs e (a / 5) (by omega) (by omega)
  obtain ⟨V, _, _⟩ := VT.cand hv.2 hZ n0 n1 (by omega) (by omega) c
  have ex : nxB s t0 z hr v a = cdB s (candT s (tuB s t0 v) z (a / 5) (a % 5)) := by unfold nxB; rw [ite_t c]
  have B := VB.of (t0 := t0) gs fw e V (fun j hj => by rw [cand_n (by omega), tu_n hj])
  rw [ex]
  exact ⟨B.1, B.2, rfl⟩
theorem nxB_n (c : ¬ whyT s (tuB s t0 v) z (a / 5) (a % 5) hr = 0) : nxB s t0 z hr v a = -1 := by unfold nxB; rw [ite_f c]
theorem nxB_cl (gs : GS s) (fw : few s) (e : EZ z s) (a0 : 0 ≤ a) (a1 : a < 5 * s 2) (hv : VB s t0 z v) (hn : 0 ≤ nxB s t0 z hr v a) : VB s t0 z (nxB s t0 z hr v a) := by
  by_cases c : whyT s (tuB s t0 v) z (a / 5) (a % 5) hr = 0
  · exact (nxB_V gs fw e a0 a1 hv c).1
  · rw [nxB_n c] at hn; omega
/-- numbers of the class -/
theorem nmr_b (gs : GS s) (fw : few s) (e : EZ z s) (V : VT s t z) (h1 : 0 ≤ r) : 0 ≤ nmr s t r ∧ nmr s t r < 40 := by
  unfold nmr
  have f := fw.1
  by_cases c : r < s 2
  · rw [ite_t c]
    obtain ⟨⟨b0, b1⟩, bd⟩ := hd_of e h1 (by omega) (V r h1 c).1 (V r h1 c).2.1
    have nb := nmB_nn (s := s) (r := r) b0
    have nl := nmB_lt (s := s) (r := r) b0 b1 bd
    have n40 := nmB_40 gs fw h1 c
    omega
  · rw [ite_f c]; omega
theorem nmr_inj (fw : few s) (e : EZ z s) (V : VT s t z) (V' : VT s t' z) (h1 : 0 ≤ r) (h2 : r < s 2) (ee : nmr s t' r = nmr s t r) : t' (3 * r) = t (3 * r) ∧ t' (3 * r + 1) = t (3 * r + 1) ∧ t' (3 * r + 2) = t (3 * r + 2) := by
  have f := fw.1
  unfold nmr at ee
  rw [ite_t h2, ite_t h2] at ee
  obtain ⟨⟨b0, b1⟩, bd⟩ := hd_of e h1 (by omega) (V r h1 h2).1 (V r h1 h2).2.1
  obtain ⟨⟨c0, c1⟩, cd⟩ := hd_of e h1 (by omega) (V' r h1 h2).1 (V' r h1 h2).2.1
  exact same_r (V r h1 h2).1 (V' r h1 h2).1 (nmB_inj c0 b0 cd bd ee)
theorem csT_nIn (gs : GS s) (fw : few s) (e : EZ z s) (V : VT s t z) (h1 : 0 ≤ r) (h2 : r < 3) : nIn (csT s t) r = nmr s t r := by
  have a := nmr_b (r := 0) gs fw e V (by omega)
  have b := nmr_b (r := 1) gs fw e V (by omega)
  have c := nmr_b (r := 2) gs fw e V (by omega)
  have d : r = 0 ∨ r = 1 ∨ r = 2 := by omega
  unfold nIn csT
  rcases d with rfl | rfl | rfl
  · rw [if_pos rfl]; omega
  · rw [if_neg (by omega), if_pos rfl]; omega
  · rw [if_neg (by omega), if_neg (by omega)]; omega
theorem csT_ok (gs : GS s) (fw : few s) (e : EZ z s) (V : VT s t z) : okS (csT s t) ∧ csT s t < 163840 := by
  have a := nmr_b (r := 0) gs fw e V (by omega)
  have b := nmr_b (r := 1) gs fw e V (by omega)
  have c := nmr_b (r := 2) gs fw e V (by omega)
  unfold okS csT
  omega
theorem csB_inj (gs : GS s) (fw : few s) (e : EZ z s) (hv : VB s t0 z v) (hw : VB s t0 z w) (ee : csB s t0 v = csB s t0 w) : v = w := by
  have b2 := gs.1.1 2 (by omega) (by omega)
  have f3 := fw.1
  have k : ∀ r, 0 ≤ r → r < s 2 → nmr s (tuB s t0 v) r = nmr s (tuB s t0 w) r := fun r h1 h2 => by
    rw [← csT_nIn gs fw e hv.2 h1 (by omega), ← csT_nIn gs fw e hw.2 h1 (by omega)]
    unfold csB at ee
    rw [ee]
  have tt : tuB s t0 v = tuB s t0 w := by
    funext j
    by_cases cj : j < 0 ∨ 3 * s 2 ≤ j
    · rw [tu_n cj, tu_n cj]
    · have m := nmr_inj fw e hw.2 hv.2 (r := j / 3) (by omega) (by omega) (k _ (by omega) (by omega))
      have e : j = 3 * (j / 3) ∨ j = 3 * (j / 3) + 1 ∨ j = 3 * (j / 3) + 2 := by omega
      rcases e with e | e | e
      · rw [e]; exact m.1
      · rw [e]; exact m.2.1
      · rw [e]; exact m.2.2
  rw [← cd_tu (t0 := t0) b2.1 fw.1 hv.1, ← cd_tu (t0 := t0) b2.1 fw.1 hw.1, tt]
theorem BI.le64 {lo hi : Int} {S : BS} (gs : GS s) (fw : few s) (e : EZ z s) (I : BI (VB s t0 z) lo hi S) : S.1 ≤ 64000 := by
  obtain ⟨t1, vv, inj, -⟩ := I
  have := php 64000 S.1.toNat (fun i => (1600 * nmr s (tuB s t0 (S.2.1 i)) 0 + 40 * nmr s (tuB s t0 (S.2.1 i)) 1 + nmr s (tuB s t0 (S.2.1 i)) 2).toNat) (fun i hi => by
    have V := (vv i (by omega) (by omega)).2
    have a := nmr_b (r := 0) gs fw e V (by omega)
    have b := nmr_b (r := 1) gs fw e V (by omega)
    have c := nmr_b (r := 2) gs fw e V (by omega)
    show (1600 * nmr s (tuB s t0 (S.2.1 i)) 0 + 40 * nmr s (tuB s t0 (S.2.1 i)) 1 + nmr s (tuB s t0 (S.2.1 i)) 2).toNat < 64000
    omega) (fun i j hi hj q => by
    have Vi := vv i (by omega) (by omega)
    have Vj := vv j (by omega) (by omega)
    have a := nmr_b (r := 0) gs fw e Vi.2 (by omega)
    have b := nmr_b (r := 1) gs fw e Vi.2 (by omega)
    have c := nmr_b (r := 2) gs fw e Vi.2 (by omega)
    have a' := nmr_b (r := 0) gs fw e Vj.2 (by omega)
    have b' := nmr_b (r := 1) gs fw e Vj.2 (by omega)
    have c' := nmr_b (r := 2) gs fw e Vj.2 (by omega)
    have q : (1600 * nmr s (tuB s t0 (S.2.1 i)) 0 + 40 * nmr s (tuB s t0 (S.2.1 i)) 1 + nmr s (tuB s t0 (S.2.1 i)) 2).toNat = (1600 * nmr s (tuB s t0 (S.2.1 j)) 0 + 40 * nmr s (tuB s t0 (S.2.1 j)) 1 + nmr s (tuB s t0 (S.2.1 j)) 2).toNat := q
    have := inj i j (by omega) (by omega) (by omega) (by omega) (csB_inj gs fw e Vi Vj (by unfold csB csT; omega))
    omega)
  omega
end COD
