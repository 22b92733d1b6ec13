/-! lagoon() in both -/
section XLG
variable {h h1 h2 h' h0 g : AH} {i la fr qa ac la' fr' : Nat} {K : AH → Prop} {postV : AH → Prop} {post : AH → Int32 → Prop} {a b c d r x y n m p q e k j v w lo hi td sp : Int} {T s : Int → Int} {l l' : List Int} {N : Int → List Int} {R : RT}
theorem BA.ga (B : BA s td) : GA s := ⟨B.gs, B.wl, B.sq, ⟨by rw [B.pl 249 (by omega)]; omega, fun i i0 i1 => by rw [B.pl 249 (by omega)] at i1; omega⟩, ⟨tS s, B.vt, B.rp, B.ru, B.rq⟩, B.vt⟩
def wiL (fr : Nat) : List Nat := blk fr ++ [0, 2, 31, 54, 92, 94, 95, 99, 100]
def wjL (fr : Nat) : List Nat := blk fr ++ [55, 92, 97]
theorem wi_L {fr a : Nat} : a ∈ wiL fr ↔ (fr ≤ a ∧ a ≤ fr + 20) ∨ a ∈ [0, 2, 31, 54, 92, 94, 95, 99, 100] := by unfold wiL; rw [List.mem_append, mem_blk]
theorem wj_L {fr a : Nat} : a ∈ wjL fr ↔ (fr ≤ a ∧ a ≤ fr + 20) ∨ a ∈ [55, 92, 97] := by unfold wjL; rw [List.mem_append, mem_blk]
/-- after a text was read, right or wrong -/
theorem Inv.text (I : Inv h i la fr qa ac) (G : Gr (wiL fr) (wjL fr) [(2, 1), (2, 12), (31, 0), (53, 0)] h h') (eN : aN h' = aN h) (eS : aS h' = aS h) (hl : (la' = 5 ∧ fr' = 32) ∨ (la' = 32 ∧ fr' = 5)) (hf : aP h' 2 12 = some fr') (scn : Scn h' 31 la' (rd h' 94) (aJ h' 97)) (ga : GA (rd h' 94)) (z : Z24 h') (cF : c0F h h') (l92 : ∀ j, 24 ≤ j → rd h' 92 j = rd h 92 j) (l2 : rd h' 92 2 = 0) (f2 : rd h' 0 2 = rd h' 92 15) : Inv h' (i + 1) la' fr' qa ac := by
  have hl0 := I.hl
  have lt := fun (a : Nat) (ha : a ≤ 118) => I.lt ha
  have I0 := I
  obtain ⟨c1, c2, c3, c4, c5, c6, c7, c8, c9, c10, c11, c12, c13, c14, c15, c16, c17, c18⟩ := I
  have dn : ∀ a, (56 ≤ a ∧ a ≤ 91) ∨ (101 ≤ a) ∨ a = 93 ∨ a = 1 ∨ a = 3 ∨ a = 27 → a ∉ wiL fr := fun a ha q => by
    have := wi_L.mp q
    simp only [List.mem_cons, List.not_mem_nil, or_false] at this
    omega
  have rr : ∀ a, a ≤ 118 → (56 ≤ a ∧ a ≤ 91) ∨ (101 ≤ a) ∨ a = 93 ∨ a = 1 ∨ a = 3 ∨ a = 27 → rd h' a = rd h a := fun a ha hb => G.row (lt a ha) (dn a hb)
  have jj : ∀ a, a ≤ 118 → 98 ≤ a → aJ h' a = aJ h a := fun a ha hb => G.jow (lt a ha) fun q => by
    have := wj_L.mp q
    simp only [List.mem_cons, List.not_mem_nil, or_false] at this
    omega
  refine I0.step G hl hf scn ga z ⟨by rw [cF.2, l2], by rw [l2]; omega, by rw [rr 1 (by omega) (by omega), rr 93 (by omega) (by omega)]; exact c11.2.2.1, by unfold TByt; rw [rr 93 (by omega) (by omega)]; exact c11.2.2.2⟩ f2 (c13.gr (cF.1 _ (by omega) (by omega)) (cF.1 _ (by omega) (by omega)) (cF.1 _ (by omega) (by omega)) (l92 _ (by omega)) (rr _ (by omega) (by omega)) (rr _ (by omega) (by omega)) (rr _ (by omega) (by omega)) (rr _ (by omega) (by omega))) (c14.gr G c1 (by decide) (by decide) (by rw [rr 74 (by omega) (by omega)]) (l92 _ (by omega)) ?_ (rr _ (by omega) (by omega))) (c15.gr (l92 _ (by omega)) (l92 _ (by omega)) (by rw [rr 74 (by omega) (by omega)]) (by rw [rr 74 (by omega) (by omega)]) (rr _ (by omega) (by omega)) (rr _ (by omega) (by omega))) (c16.gr G c1 (by decide) (by decide) (rr _ (by omega) (by omega)) (jj _ (by omega) (by omega)) (rr _ (by omega) (by omega)) ?_ ⟨Or.inl rfl, Or.inl rfl⟩) (c17.gr (rr _ (by omega) (by omega)) (rr _ (by omega) (by omega)) (jj _ (by omega) (by omega))) (c18.same c14 G eN eS)
  · have qd := c14.2.2.2.2.2.2.2.2.2
    exact dn _ (by omega)
  · refine ⟨fun a ha => ?_, fun a ha => ?_⟩
    · have := wi_L.mp ha
      simp only [List.mem_cons, List.not_mem_nil, or_false] at this
      omega
    · have := wj_L.mp ha
      simp only [List.mem_cons, List.not_mem_nil, or_false] at this
      omega
theorem x_lagoon (I : Inv h i la fr qa ac) (hK : ∀ h2, RtI (i + 1) h2 → K h2) : wp_X11_lagoon h 0 (fun h1 v1 => ob h1 92 11 ∧ wp_X12_lagoon h1 92 (Ag K v1)) := by
  have hl := I.hl
  have lt := fun (a : Nat) (ha : a ≤ 118) => I.lt ha
  have nb : ∀ a, 55 < a → a ∉ blk fr := fun a ha q => by have := mem_blk.mp q; omega
  have T2 := I.t
  have W := I.2.2.2.2.2.2.2.2.2.2.2.2.2.2.2.2.1
  have dq : ∀ p, p ∈ [((2 : Nat), (1 : Nat)), (2, 12), (31, 0), (53, 0)] → p ∈ DynP := by decide
  have Z0 := I.z
  -- what the model sees of the class's heap
  have pre : ∀ {wi wj wq g}, Gr wi wj wq h g → (∀ a, a ∈ wi → a < 56) → (∀ a, a ∈ wj → a < 56) → MSh g ∧ Z24 g ∧ RSV g ∧ (∀ a, 56 ≤ a → a ≤ 118 → rd g a = rd h a ∧ aJ g a = aJ h a) := fun {wi wj wq g} G hi hj => by
    have r : ∀ a, 56 ≤ a → a ≤ 118 → rd g a = rd h a ∧ aJ g a = aJ h a := fun a a1 a2 => ⟨G.row (lt a a2) fun q => by have := hi a q; omega, G.jow (lt a a2) fun q => by have := hj a q; omega⟩
    exact ⟨I.m.gr G, ⟨fun i hi => by rw [(r 99 (by omega) (by omega)).1]; exact Z0.1 i hi, fun i hi => by rw [(r 100 (by omega) (by omega)).1]; exact Z0.2 i hi⟩, fun i i0 i1 => by rw [(r 98 (by omega) (by omega)).2]; exact W.2.2 i i0 i1, r⟩
  have bl : ∀ a, a ∈ blk fr → a < 56 := fun a q => by have := mem_blk.mp q; omega
  refine cX_lagoon I rfl rfl (fun g R eR nz G N cF e2 => ?_) (fun g R eR cz B G NN cF e2 H L NM TT p31 p2 r312 => ?_)
  · obtain ⟨Mg, Zg, Wg, rg⟩ := pre G (fun a ha => by simp only [List.mem_cons] at ha; rcases ha with u | u | u; { omega }; { omega }; { exact bl a u }) bl
    refine ⟨Mg.o0, mX_lagoon Mg Zg Wg (rg 93 (by omega) (by omega)).1 T2.2.2.2 (by rw [(rg 92 (by omega) (by omega)).1]) T2.2.1 (fun h' R' eR' nz' F lg j97 Z' e15 => ?_) (fun h' s N td c eR' => ?_)⟩
    · rw [eR'.trans eR.symm] at e15 ⊢
      refine Ag.same (hK _ ⟨la, fr, qa, ac, ?_⟩)
      have G2 : Gr (wiL fr) (wjL fr) [(2, 1), (2, 12), (31, 0), (53, 0)] h h' := (G.mono (fun a ha => wi_L.mpr (by simp only [List.mem_cons] at ha; rcases ha with u | u | u; { right; simp [u] }; { right; simp [u] }; { left; exact mem_blk.mp u })) (fun a ha => wj_L.mpr (Or.inl (mem_blk.mp ha))) (by simp) dq).trans (F.gr.mono (fun a ha => wi_L.mpr (Or.inr (by simp at ha ⊢; omega))) (fun a ha => wj_L.mpr (Or.inr (by simp at ha ⊢; omega))) (by simp) dq)
      have e94 : rd h' 94 = rd h 94 := by rw [F.row (by simp)]; exact (rg 94 (by omega) (by omega)).1
      have S1 : Scn g 31 la (rd h 94) (aJ h 97) := I.scn.gr G (by omega) (Or.inl rfl) (by simp) (by simp) (fun j hj q => by simp only [List.mem_cons] at q; rcases q with u | u | u; { omega }; { omega }; { have := mem_blk.mp u; omega }) (fun j hj q => by have := mem_blk.mp q; omega) (fun q => by simp only [List.mem_cons] at q; rcases q with u | u | u; { omega }; { omega }; { have := mem_blk.mp u; omega }) (fun q => by simp only [List.mem_cons] at q; rcases q with u | u | u; { omega }; { omega }; { have := mem_blk.mp u; omega }) (fun q => by have := mem_blk.mp q; omega) (fun q => by simp only [List.mem_cons] at q; rcases q with u | u | u; { omega }; { omega }; { have := mem_blk.mp u; omega }) (fun q => by simp only [List.mem_cons] at q; rcases q with u | u | u; { omega }; { omega }; { have := mem_blk.mp u; omega })
      have S2 : Scn h' 31 la (rd h 94) (aJ h 97) := S1.gr F.gr (by omega) (Or.inl rfl) (by simp) (by simp) (fun j hj => by simp; omega) (fun j hj => by simp; omega) (by decide) (by decide) (by decide) (by decide) (by decide)
      exact I.text G2 (by rw [F.1]; exact N.1) (by rw [F.2.1]; exact N.2) hl (by rw [F.aPe]; exact (G.dyn (lt 2 (by omega)) (by decide)).trans I.2.2.2.2.2.1) (by rw [e94]; exact S2.cg I.ga (fun _ _ _ => rfl) (fun j hj => (j97 j hj).trans (congrFun (rg 97 (by omega) (by omega)).2 j))) (by rw [e94]; exact I.ga) Z' ⟨fun j j1 j2 => by rw [F.row (by simp)]; exact cF.1 j j1 j2, by rw [F.row (by simp)]; exact cF.2⟩ (fun j hj => by rw [lg.1 j (by omega), (rg 92 (by omega) (by omega)).1]) lg.2 (by rw [F.row (by simp), e2, e15])
    · rw [eR, eR'] at nz
      exact absurd rfl nz
  · obtain ⟨Mg, Zg, Wg, rg⟩ := pre G (fun a ha => by simp only [List.mem_cons] at ha; rcases ha with u | u | u | u | u; { omega }; { omega }; { omega }; { omega }; { exact bl a u }) (fun a ha => by simp only [List.mem_cons] at ha; rcases ha with u | u; { omega }; { exact bl a u })
    refine ⟨Mg.o0, mX_lagoon Mg Zg Wg (rg 93 (by omega) (by omega)).1 T2.2.2.2 (by rw [(rg 92 (by omega) (by omega)).1]) T2.2.1 (fun h' R' eR' nz' => ?_) (fun h' s N td c eR' B' F lg Z' e15 e94 en => ?_)⟩
    · rw [eR'.trans eR.symm] at nz'
      exact absurd cz nz'
    · have eq' : R = okR s N td c := eR.trans eR'
      subst eq'
      refine Ag.same (hK _ ⟨fr, la, qa, ac, ?_⟩)
      have G2 : Gr (wiL fr) (wjL fr) [(2, 1), (2, 12), (31, 0), (53, 0)] h h' := (G.mono (fun a ha => wi_L.mpr (by simp only [List.mem_cons] at ha; rcases ha with u | u | u | u | u; { right; simp [u] }; { right; simp [u] }; { right; simp [u] }; { right; simp [u] }; { left; exact mem_blk.mp u })) (fun a ha => wj_L.mpr (by simp only [List.mem_cons] at ha; rcases ha with u | u; { right; simp [u] }; { left; exact mem_blk.mp u })) (fun _ q => q) dq).trans (F.gr.mono (fun a ha => wi_L.mpr (Or.inr (by simp at ha ⊢; omega))) (fun a ha => wj_L.mpr (Or.inr (by simp at ha ⊢; omega))) (by simp) dq)
      have Hs : LB h' fr := H.gr F.gr (by omega)
      have Ls : LR h' fr s := LR.fr (s := s) L F (fun j hj => by simp; omega) (fun j hj => by simp; omega)
      have NM : NmL g fr (s 2) N := NM
      have TT : TR g 53 fr s (tS s) (zC s) := TT
      have Ts : TR h' 53 fr s (tS s) (zC s) := TT.gr F.gr (by intro k hk; unfold DynP; simp [hk]) (by simp) (by simp) (by simp)
      have Sc : Scn h' 31 fr s (aJ h' 97) := by
        obtain ⟨⟨o0, p0, p1, tb, p3, o25, l25, p4, o26, l26⟩, _⟩ := I.scn
        refine ⟨⟨G2.ob o0, by rw [F.aPe]; exact p31, (G2.ptr o0.2 (by decide)).trans p1, Ts.1, (G2.ptr o0.2 (by decide)).trans p3, G2.ob o25, (G2.len o25.2).trans l25, (G2.ptr o0.2 (by decide)).trans p4, G2.ob o26, (G2.len o26.2).trans l26⟩, Hs, Ls, fun r r0 r1 => ?_, Ts, ?_, fun i i0 i1 => ?_⟩
        · have n1 := NM r r0 r1
          have n2 := en r r0 r1
          exact ⟨N r, n1.2.2, n1.2.1, by rw [F.row (by simp; omega)]; exact n1.1, n2.1⟩
        · rw [F.row (by simp), r312, B'.pl 249 (by omega)]
        · rw [B'.pl 249 (by omega)] at i1; omega
      exact I.text G2 (by rw [F.1]; exact NN.1) (by rw [F.2.1]; exact NN.2) (by omega) (by rw [F.aPe]; exact p2) (Sc.cg B'.ga e94 (fun _ _ => rfl)) (B'.ga.cg e94) Z' ⟨fun j j1 j2 => by rw [F.row (by simp)]; exact cF.1 j j1 j2, by rw [F.row (by simp)]; exact cF.2⟩ (fun j hj => by rw [lg.1 j (by omega), (rg 92 (by omega) (by omega)).1]) lg.2 (by rw [F.row (by simp), e2, e15])
end XLG
