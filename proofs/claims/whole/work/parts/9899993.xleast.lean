/-! least() in both -/
section XLE
variable {h h1 h2 h3 h' h0 g : AH} {i la fr qa ac qa' ac' : Nat} {K : AH → Prop} {postV : AH → Prop} {post : AH → Int32 → Prop} {a b c d f j k v w x y pl r hr how goal st u : Int} {s t z X F B : Int → Int} {S : BS}
theorem SO.tape {Y : Nat → Int} (O : SO h1 h3 qa ac qa' ac' v Y) (hac : ac = 78 ∨ 119 ≤ ac) : SO (hI h1 92 2 0) (hI h3 92 2 0) qa ac qa' ac' v Y := by
  have fv : Fr [92] [] [] h1 (hI h1 92 2 0) := fr_hI
  have f3 : Fr [92] [] [] h3 (hI h3 92 2 0) := fr_hI
  obtain ⟨G, r74, p2, oq, ql, qd, qn, p8, oa, al, ad, an, rN, rS, vv⟩ := O
  have n1 : ac ∉ [92] := by simp; omega
  have n2 : ac' ∉ [92] := by simp; omega
  refine ⟨⟨G.1, G.2.1, G.2.2.1, fun a ha hn => ?_, G.2.2.2.2.1, G.2.2.2.2.2⟩, fun j hj => by rw [f3.row (by simp), fv.row (by simp)]; exact r74 j hj, p2, oq, ql, qd, qn, p8, oa, al, ad, an, rN, rS, ?_⟩
  · have e := G.2.2.2.1 a ha hn
    by_cases c : a = 92
    · subst c
      unfold hI
      rw [e]
      rfl
    · rw [fv.2.2.2.2.1 a (by simpa using c), f3.2.2.2.2.1 a (by simpa using c)]
      exact e
  · rw [f3.row (by simp), fv.row (by simp), f3.row n1, fv.row n1, f3.row n2]
    exact vv
theorem x_least (I : Inv h i la fr qa ac) (hi : i ≤ 512) (p0 : -2147483648 ≤ hr) (p0' : hr < 2147483648) (hK : ∀ h2, RtI (i + 1) h2 → K h2) : wp_X11_least h 0 (iI hr) (fun h1 v1 => ob h1 92 11 ∧ wp_X12_least h1 92 (iI hr) (Ag K v1)) := by
  have hG := I.ga
  have lt := fun (a : Nat) (ha : a ≤ 118) => I.lt ha
  obtain ⟨t1, t2, t3, t4⟩ := I.t
  have T := I.core.2.2.2.2.2.2.1
  have q11 := I.q.2.2.2.2.2.2.2.2.2.2
  have pre : ∀ {h1 : AH} {wi wj : List Nat} {wq : List (Nat × Nat)}, Gr wi wj wq h h1 → 92 ∉ wi → 93 ∉ wi → 94 ∉ wi → 99 ∉ wi → 100 ∉ wi → MSh h1 ∧ Z24 h1 ∧ rd h1 94 = rd h 94 ∧ rd h1 92 = rd h 92 ∧ bT h1 = bT h := fun {h1 wi wj wq} g n1 n2 n3 n4 n5 => by
    refine ⟨I.m.gr g, ?_, g.row (lt 94 (by omega)) n3, g.row (lt 92 (by omega)) n1, ?_⟩
    · have z := I.z
      unfold Z24 at z ⊢
      rw [g.row (lt 99 (by omega)) n4, g.row (lt 100 (by omega)) n5]
      exact z
    · unfold bT
      rw [g.row (lt 93 (by omega)) n2]
  -- the tape taken in both
  have tk : ∀ {h1 h2 : AH} {wi : List Nat}, Gr [0, 60] [61] [(59, 0)] h h1 → aN h1 = aN h → aS h1 = aS h → rd h1 0 = updT (rd h 0) 1 0 → Fr wi [] [] h1 h2 → (∀ a, a ∈ wi → a ∈ [92, 99, 100]) → (∀ j, j ∈ QW → j ≠ 2 → rd h2 92 j = rd h 92 j) → rd h2 92 2 = 0 → Z24 h2 → Inv h2 (i + 1) la fr qa ac := fun {h1 h2 wi} g eN eS e0 f2 hw m2 l2 z2 => by
    have nw : ∀ a, a ∉ [92, 99, 100] → a ∉ wi := fun a ha q => ha (hw a q)
    have s94 : rd h2 94 = rd h 94 := by rw [f2.row (nw _ (by decide)), g.row (lt 94 (by omega)) (by decide)]
    have s93 : rd h2 93 = rd h 93 := by rw [f2.row (nw _ (by decide)), g.row (lt 93 (by omega)) (by decide)]
    refine I.town2 ((g.mono (by simp) (by simp) (by simp) (by simp [DynP])).trans (f2.gr.mono (fun a q => by have := hw a q; simp at this ⊢; omega) (by simp) (by simp) (by simp [DynP]))) (by rw [f2.1, eN]) (by rw [f2.2.1, eS]) (fun j hj => by rw [f2.row (nw _ (by decide)), e0, updT_n hj]) m2 z2 ⟨by rw [f2.row (nw _ (by decide)), e0, updT_s, l2], by omega, by rw [f2.row (nw _ (by decide)), g.row (lt 1 (by omega)) (by decide), s93, t3], by unfold TByt; rw [s93]; exact t4⟩ (fun _ _ => by rw [s94]) ?_ (by rw [s94]; exact hG.vt) (fun j _ _ => by rw [s94])
    rw [s94]
    exact (T.gr g (by intro k hk; unfold DynP; simp [hk]) (by decide) (by decide) (by decide)).gr f2.gr (by intro k hk; unfold DynP; simp [hk]) List.not_mem_nil (nw _ (by decide)) List.not_mem_nil
  have hx : -2147483648 ≤ hr ∧ hr < 2147483648 := ⟨p0, p0'⟩
  -- after a search
  have go : ∀ {h1 h3 h2 : AH} {qa' ac' : Nat} {v : Int} {Y : Nat → Int}, Gr [0, 60] [61] [(59, 0)] h h1 → aN h1 = aN h → aS h1 = aS h → rd h1 0 = updT (rd h 0) 1 0 → SO h1 h3 qa ac qa' ac' v Y → rd h3 92 = rd h1 92 → Fr [92, 99, 100, 104, 105, 106, 107, 108] [] [] h3 h2 → (∀ j, j ∈ QW → j ≠ 2 → j ≠ 40 → rd h2 92 j = rd h3 92 j) → rd h2 92 2 = 0 → Z24 h2 → ((v = -1 ∧ rd h2 92 40 = rd h3 92 40 ∧ rd h2 108 = rd h3 108) ∨ (0 ≤ v ∧ rd h2 92 40 = v ∧ ∀ k : Nat, (k : Int) < v → rd h2 108 (v - 1 - k) = Y k)) → Inv h2 (i + 1) la fr qa' ac' := fun {h1 h3 h2 qa' ac' v Y} g eN eS e0 O e92 F ro l2 z2 hf => by
    obtain ⟨M1, Z1, d94, d92, db⟩ := pre g (by decide) (by decide) (by decide) (by decide) (by decide)
    obtain ⟨fv, rv⟩ := wI (h := h1) (a := 92) (i := 2) (v := 0) (by omega) (by omega) (by omega) rfl
    obtain ⟨f3, r3⟩ := wI (h := h3) (a := 92) (i := 2) (v := 0) (by omega) (by omega) (by omega) rfl
    have Zv : Z24 (hI h1 92 (2 : Int).toNat (iI 0)) := by unfold Z24; rw [fv.row (by simp), fv.row (by simp)]; exact Z1
    have Iv := tk g eN eS e0 fv (by simp) (fun j _ hj => by rw [rv, updT_n hj, d92]) (by rw [rv, updT_s]) Zv
    have ll : aL h1 qa = aL h qa ∧ aL h1 ac = aL h ac := ⟨g.len I.q.2.1.2, g.len I.q.2.2.2.2.1.2⟩
    have Il : Inv (hI h1 92 (2 : Int).toNat (iI 0)) i la fr qa ac := Iv.low (by
      have R := I.rm
      unfold IvR at R ⊢
      rw [fv.1, fv.2.1, fv.2.2.2.1, eN, eS, ll.1, ll.2]
      exact R)
    refine Il.search (O.tape q11) (vi := [92, 99, 100, 104, 105, 106, 107, 108]) (F := ?_) (by simp) (fun j hj h4 => ?_) z2 ?_
    · have fb : Fr [92] [] [] (hI h3 92 2 0) h3 := ⟨rfl, rfl, rfl, rfl, fun a ha => (f3.2.2.2.2.1 a ha).symm, fun a ha => rfl, fun _ _ => rfl⟩
      exact (fb.mono (by simp) (by simp) (by simp)).trans F
    · have r3 : rd (hI h3 92 2 0) 92 = updT (rd h3 92) 2 0 := r3
      rw [r3]
      by_cases c : j = 2
      · rw [c, updT_s, l2]
      · rw [updT_n c]; exact ro j hj c h4
    · have r3 : rd (hI h3 92 2 0) 92 = updT (rd h3 92) 2 0 := r3
      have f3 : Fr [92] [] [] h3 (hI h3 92 2 0) := f3
      rw [r3, updT_n (by omega), f3.row (by simp)]
      exact hf
  have pre3 : ∀ {h1 h3 qa' ac' v Y}, Gr [0, 60] [61] [(59, 0)] h h1 → SO h1 h3 qa ac qa' ac' v Y → MSh h3 ∧ Z24 h3 ∧ rd h3 94 = rd h 94 ∧ rd h3 92 = rd h1 92 ∧ rd h1 92 = rd h 92 ∧ bT h3 = bT h := fun {h1 h3 qa' ac' v Y} g O => by
    obtain ⟨M1, Z1, d94, d92, db⟩ := pre g (by decide) (by decide) (by decide) (by decide) (by decide)
    have r1 : ∀ a, a ≤ 118 → 92 ≤ a → rd h3 a = rd h1 a := fun a ha hb => O.G.row (by have := lt a ha; have := g.2.1; omega) fun q => by
      unfold sGi at q
      simp only [List.mem_cons, List.not_mem_nil, or_false] at q
      omega
    refine ⟨M1.gr O.G, ?_, by rw [r1 94 (by omega) (by omega), d94], r1 92 (by omega) (by omega), d92, ?_⟩
    · unfold Z24 at Z1 ⊢
      rw [r1 99 (by omega) (by omega), r1 100 (by omega) (by omega)]
      exact Z1
    · rw [← db]
      unfold bT
      rw [r1 93 (by omega) (by omega)]
  refine cX_least I hi hx (fun h1 nc g eN eS e0 hV => ?_) (fun h1 h3 qa' goal c V eg g eN eS e0 ns O => ?_) (fun h1 h3 qa' ac' goal pl c V eg g eN eS e0 pl0 pl1 pg O => ?_)
  · obtain ⟨M1, Z1, d94, d92, db⟩ := pre g (by decide) (by decide) (by decide) (by decide) (by decide)
    refine ⟨M1.o0, mX_least M1 Z1 (by rw [d94]; exact hG) (by rw [d92]; exact t2) hx (by rw [d94, d92, db]; exact hV) (fun h2 _ F2 m2 l2 z2 => ?_) (fun h2 goal c => ?_) (fun h2 goal pl c => ?_)⟩
    · exact Ag.same (hK _ (tk g eN eS e0 F2 (fun _ q => q) (fun j hj h2' => by rw [m2 j hj h2', d92]) l2 z2).rt)
    · rw [d94, d92, db] at c; exact absurd c nc
    · rw [d94, d92, db] at c; exact absurd c nc
  · obtain ⟨M3, Z3, d94, e92, d92, db⟩ := pre3 g O
    refine ⟨M3.o0, mX_least M3 Z3 (by rw [d94]; exact hG) (by rw [e92, d92]; exact t2) hx (by rw [d94, e92, d92, db]; exact fun _ => V) (fun h2 nc => ?_) (fun h2 goal' c' eg' ns' F m2 l2 e108 z2 => ?_) (fun h2 goal' pl c' eg' I2 pl0 pl1 pg F => ?_)⟩
    · rw [d94, e92, d92, db] at nc; exact absurd c nc
    · exact Ag.same (hK _ (go g eN eS e0 O e92 F (fun j hj h2' _ => m2 j hj h2') l2 z2 (Or.inl ⟨rfl, m2 40 (by decide) (by omega), e108⟩)).rt)
    · rw [d94, db] at eg'
      rw [d94] at pl1 pg
      rw [← eg] at eg'
      rw [eg'] at pl1 pg
      exact absurd ⟨pl, pl0, pl1, pg⟩ ns
  · obtain ⟨M3, Z3, d94, e92, d92, db⟩ := pre3 g O
    refine ⟨M3.o0, mX_least M3 Z3 (by rw [d94]; exact hG) (by rw [e92, d92]; exact t2) hx (by rw [d94, e92, d92, db]; exact fun _ => V) (fun h2 nc => ?_) (fun h2 goal' c' eg' ns' => ?_) (fun h2 goal' pl' c' eg' I2 pl0' pl1' pg' F m2 l2 e40 yy z2 => ?_)⟩
    · rw [d94, e92, d92, db] at nc; exact absurd c nc
    · rw [d94, db, ← eg] at eg'
      rw [eg', d94] at ns'
      exact absurd ⟨pl, pl0, pl1, pg⟩ ns'
    · rw [d94, db, ← eg] at eg'
      rw [eg'] at I2 pl1' pg' e40 yy ⊢
      rw [d94] at I2 pl1' pg' e40 yy ⊢
      have epl : pl' = pl := I2.2.2.1 pl' pl pl0' pl1' pl0 pl1 (pg'.trans pg.symm)
      rw [epl] at e40 yy ⊢
      have db := dpt_bd I2.fg pl.toNat pl (by omega) pl0 pl1
      exact Ag.same (hK _ (go g eN eS e0 O e92 F m2 l2 z2 (Or.inr ⟨db.1, e40, yy⟩)).rt)
end XLE
