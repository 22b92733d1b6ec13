/-! changed() in both -/
section XCH
variable {h h1 h2 h3 h' h0 g : AH} {i la fr qa ac qa' ac' : Nat} {K : AH → Prop} {postV : AH → Prop} {post : AH → Int32 → Prop} {a b c d f j k v w x y pl r hr how goal st u : Int} {s t z X F B : Int → Int} {S : BS}
theorem x_changed (I : Inv h i la fr qa ac) (hi : i ≤ 512) (pa : -2147483648 ≤ a) (pa' : a < 2147483648) (pb : -2147483648 ≤ b) (pb' : b < 2147483648) (p0 : -2147483648 ≤ hr) (p0' : hr < 2147483648) (hK : ∀ h2, RtI (i + 1) h2 → K h2) : wp_X11_changed h 0 (iI a) (iI b) (iI hr) (fun h1 v1 => ob h1 92 11 ∧ wp_X12_changed h1 92 (iI a) (iI b) (iI hr) (Ag K v1)) := by
  have hG := I.ga
  have bd := hG.bd
  have lt := fun (a : Nat) (ha : a ≤ 118) => I.lt ha
  have iT := I.t
  obtain ⟨t1, t2, t3, t4⟩ := id iT
  have T := I.core.2.2.2.2.2.2.1
  have q11 := I.q.2.2.2.2.2.2.2.2.2.2
  have ha : -2147483648 ≤ a ∧ a < 2147483648 := ⟨pa, pa'⟩
  have hb : -2147483648 ≤ b ∧ b < 2147483648 := ⟨pb, pb'⟩
  have hx : -2147483648 ≤ hr ∧ hr < 2147483648 := ⟨p0, p0'⟩
  have hV : chOk (rd h 94) a b hr → VT (rd h 94) (chT (tS (rd h 94)) a b) (zC (rd h 94)) := fun q => town_vt (fun r r1 r2 => ch_spot hG.vt q.1 q.2.1 q.2.2.1 r1 r2) q.2.2.2.2.2
  have hR : (0 ≤ a ∧ a < rd h 94 2) → (0 ≤ b ∧ b < rd h 94 2) → a ≠ b → ∀ o, 0 ≤ o → o < rd h 94 2 → RBd (chT (tS (rd h 94)) a b) (zC (rd h 94)) o := fun c1 c2 c3 o o1 o2 => RBd.of (ch_spot hG.vt c1 c2 c3 o1 o2).P1 (Z1.of (EZ.c _) hG.1.2.1 o1 o2 bd.2.2.1.2)
  -- what the class wrote beside
  have st : ∀ {h1 h2 : AH} {wi : List Nat}, Gr [60] [61] [(59, 0)] h h1 → aN h1 = aN h → aS h1 = aS h → Fr wi [] [] h1 h2 → (∀ a, a ∈ wi → a ∈ [92, 99, 100]) → (∀ j, j ∈ QW → rd h2 92 j = rd h 92 j) → Z24 h2 → Inv h2 (i + 1) la fr qa ac := fun {h1 h2 wi} g eN eS f2 hw m2 z2 => by
    have nw : ∀ a, a ∉ [92, 99, 100] → a ∉ wi := fun a ha q => ha (hw a q)
    have s94 : rd h2 94 = rd h 94 := by rw [f2.row (nw _ (by decide)), g.row (lt 94 (by omega)) (by decide)]
    have s93 : rd h2 93 = rd h 93 := by rw [f2.row (nw _ (by decide)), g.row (lt 93 (by omega)) (by decide)]
    have s0 : rd h2 0 = rd h 0 := by rw [f2.row (nw _ (by decide)), g.row (lt 0 (by omega)) (by decide)]
    have s1 : rd h2 1 = rd h 1 := by rw [f2.row (nw _ (by decide)), g.row (lt 1 (by omega)) (by decide)]
    refine I.town2 ((g.mono (by simp) (by simp) (by simp) (by simp [DynP])).trans (f2.gr.mono (fun a q => by have := hw a q; simp at this ⊢; omega) (by simp) (by simp) (by simp [DynP]))) (by rw [f2.1, eN]) (by rw [f2.2.1, eS]) (fun j hj => by rw [s0]) (fun j hj _ => m2 j hj) z2 ⟨by rw [s0, m2 2 (by decide), t1], by rw [m2 2 (by decide)]; exact t2, by rw [s1, s93, t3], by unfold TByt; rw [s93]; exact t4⟩ (fun _ _ => by rw [s94]) ?_ (by rw [s94]; exact hG.vt) (fun j _ _ => by rw [s94])
    rw [s94]
    exact (T.gr g (by intro k hk; unfold DynP; simp [hk]) (by decide) (by decide) (by decide)).gr f2.gr (by intro k hk; unfold DynP; simp [hk]) List.not_mem_nil (nw _ (by decide)) List.not_mem_nil
  have pre : ∀ {h1 : AH}, Gr [60] [61] [(59, 0)] h h1 → MSh h1 ∧ Z24 h1 ∧ rd h1 94 = rd h 94 ∧ rd h1 92 = rd h 92 := fun {h1} g => by
    refine ⟨I.m.gr g, ?_, g.row (lt 94 (by omega)) (by decide), g.row (lt 92 (by omega)) (by decide)⟩
    have z := I.z
    unfold Z24 at z ⊢
    rw [g.row (lt 99 (by omega)) (by decide), g.row (lt 100 (by omega)) (by decide)]
    exact z
  have sm : ∀ {h1 : AH}, Gr [60] [61] [(59, 0)] h h1 → aN h1 = aN h → aS h1 = aS h → Inv h1 i la fr qa ac := fun {h1} g eN eS => by
    obtain ⟨M1, Z1, d94, d92⟩ := pre g
    refine (st (wi := []) g eN eS ⟨rfl, rfl, rfl, rfl, fun _ _ => rfl, fun _ _ => rfl, fun _ _ => rfl⟩ (by simp) (fun j _ => by rw [d92]) Z1).low ?_
    have ll : aL h1 qa = aL h qa ∧ aL h1 ac = aL h ac := ⟨g.len I.q.2.1.2, g.len I.q.2.2.2.2.1.2⟩
    have R := I.rm
    unfold IvR at R ⊢
    rw [eN, eS, ll.1, ll.2]
    exact R
  have pre3 : ∀ {h1 h3 qa' ac' v Y}, Gr [60] [61] [(59, 0)] h h1 → SO h1 h3 qa ac qa' ac' v Y → MSh h3 ∧ Z24 h3 ∧ rd h3 94 = rd h 94 ∧ rd h3 92 = rd h1 92 := fun {h1 h3 qa' ac' v Y} g O => by
    obtain ⟨M1, Z1, d94, d92⟩ := pre g
    have r1 : ∀ a, a ≤ 118 → 92 ≤ a → rd h3 a = rd h1 a := fun a ha hb => O.G.row (by have := lt a ha; have := g.2.1; omega) fun q => by
      unfold sGi at q
      simp only [List.mem_cons, List.not_mem_nil, or_false] at q
      omega
    refine ⟨M1.gr O.G, ?_, by rw [r1 94 (by omega) (by omega), d94], r1 92 (by omega) (by omega)⟩
    unfold Z24 at Z1 ⊢
    rw [r1 99 (by omega) (by omega), r1 100 (by omega) (by omega)]
    exact Z1
  refine cX_changed I hi ha hb hx (fun h1 nc g eN eS => ?_) (fun h1 h3 qa' goal c eg g eN eS ns O => ?_) (fun h1 h3 qa' ac' goal pl c eg g eN eS pl0 pl1 pg O => ?_)
  · obtain ⟨M1, Z1, d94, d92⟩ := pre g
    refine ⟨M1.o0, mX_changed M1 Z1 (by rw [d94]; exact hG) ha hb hx (by rw [d94]; exact hV) (by rw [d94]; exact hR) (fun h2 _ F2 m2 z2 => ?_) (fun h2 goal c => ?_) (fun h2 goal pl c => ?_)⟩
    · exact Ag.same (hK _ (st g eN eS F2 (fun _ q => q) (fun j hj => by rw [m2 j hj, d92]) z2).rt)
    · rw [d94] at c; exact absurd c nc
    · rw [d94] at c; exact absurd c nc
  · obtain ⟨M3, Z3, d94, e92⟩ := pre3 g O
    refine ⟨M3.o0, mX_changed M3 Z3 (by rw [d94]; exact hG) ha hb hx (by rw [d94]; exact hV) (by rw [d94]; exact hR) (fun h2 nc => ?_) (fun h2 goal' c' eg' ns' F m2 e108 z2 => ?_) (fun h2 goal' pl c' eg' I2 pl0 pl1 pg F => ?_)⟩
    · rw [d94] at nc; exact absurd c nc
    · exact Ag.same (hK _ ((sm g eN eS).search O F (by simp) (fun j hj _ => m2 j hj) z2 (Or.inl ⟨rfl, m2 40 (by decide), e108⟩)).rt)
    · rw [d94] at eg' pl1 pg
      rw [← eg] at eg'
      rw [eg'] at pl1 pg
      exact absurd ⟨pl, pl0, pl1, pg⟩ ns
  · obtain ⟨M3, Z3, d94, e92⟩ := pre3 g O
    refine ⟨M3.o0, mX_changed M3 Z3 (by rw [d94]; exact hG) ha hb hx (by rw [d94]; exact hV) (by rw [d94]; exact hR) (fun h2 nc => ?_) (fun h2 goal' c' eg' ns' => ?_) (fun h2 goal' pl' c' eg' I2 pl0' pl1' pg' F m2 e40 yy z2 => ?_)⟩
    · rw [d94] at nc; exact absurd c nc
    · rw [d94, ← eg] at eg'
      rw [eg', d94] at ns'
      exact absurd ⟨pl, pl0, pl1, pg⟩ ns'
    · rw [d94, ← eg] at eg'
      rw [eg'] at I2 pl1' pg' e40 yy ⊢
      rw [d94] at I2 pl1' pg' e40 yy ⊢
      have epl : pl' = pl := I2.2.2.1 pl' pl pl0' pl1' pl0 pl1 (pg'.trans pg.symm)
      rw [epl] at e40 yy ⊢
      have db := dpt_bd I2.fg pl.toNat pl (by omega) pl0 pl1
      exact Ag.same (hK _ ((sm g eN eS).search O F (by simp) m2 z2 (Or.inr ⟨db.1, e40, yy⟩)).rt)
end XCH
