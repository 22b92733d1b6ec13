/-! cells made one behind another -/
def lk : List (Nat × Nat) → Nat → Nat × Nat
  | [], _ => (99, 0)
  | x :: cs, j => if j = cs.length then x else lk cs j
/-- from b on: kinds and lengths (the newest first), pointers, rows that aren't all 0; below b all is as in h0 -/
def Bk (h0 h : AH) (b : Nat) (cs : List (Nat × Nat)) (ps : List ((Nat × Nat) × Nat)) (vs : List (Nat × Int × (Int → Int))) : Prop :=
  aN h = b + cs.length ∧ (∀ j, j < cs.length → aK h (b + j) = (lk cs j).1 ∧ aL h (b + j) = (lk cs j).2) ∧ (∀ p, p ∈ ps → aP h (b + p.1.1) p.1.2 = some (b + p.2)) ∧ (∀ a, a < b → aK h a = aK h0 a ∧ aL h a = aL h0 a ∧ aI h a = aI h0 a ∧ aJ h a = aJ h0 a ∧ aP h a = aP h0 a) ∧
  (∀ j, j < cs.length → j ∉ vs.map Prod.fst → aI h (b + j) = fun _ => 0) ∧ (∀ j, j < cs.length → aJ h (b + j) = fun _ => 0) ∧ (∀ v, v ∈ vs → ∀ i, 0 ≤ i → i < v.2.1 → rd h (b + v.1) i = v.2.2 i)
theorem lk_old {cs : List (Nat × Nat)} {x : Nat × Nat} {j : Nat} (h : j < cs.length) : lk (x :: cs) j = lk cs j := if_neg (by omega)
theorem lk_new {cs : List (Nat × Nat)} {x : Nat × Nat} : lk (x :: cs) cs.length = x := if_pos rfl
section BLOCK
variable {h0 h h' : AH} {b o ok f kd len t : Nat} {cs : List (Nat × Nat)} {ps : List ((Nat × Nat) × Nat)} {vs : List (Nat × Int × (Int → Int))} {REST : AH → Prop} {REST2 : AH → Nat → Prop}
theorem Bk.nil (h : AH) : Bk h h (aN h) [] [] [] := ⟨rfl, fun j hj => absurd hj (Nat.not_lt_zero _), fun p hp => absurd hp List.not_mem_nil, fun a _ => ⟨rfl, rfl, rfl, rfl, rfl⟩, fun j hj => absurd hj (Nat.not_lt_zero _), fun j hj => absurd hj (Nat.not_lt_zero _), fun v hv => absurd hv List.not_mem_nil⟩
theorem Bk.oo (B : Bk h0 h b cs ps vs) (ho : o < cs.length) (hk : (lk cs o).1 = ok) : ob h (b + o) ok := ⟨(B.2.1 o ho).1.trans hk, by rw [B.1]; omega⟩
theorem Bk.ll (B : Bk h0 h b cs ps vs) (ho : o < cs.length) (hk : (lk cs o).2 = len) : aL h (b + o) = len := (B.2.1 o ho).2.trans hk
theorem Bk.pp (B : Bk h0 h b cs ps vs) (hp : ((o, f), t) ∈ ps) : aP h (b + o) f = some (b + t) := B.2.2.1 _ hp
theorem Bk.new (B : Bk h0 h b cs ps vs) (hps : ∀ p, p ∈ ps → p.1.1 < cs.length) (hvs : ∀ v, v ∈ vs → v.1 < cs.length) : Bk h0 (hNew h kd len) b ((kd, len) :: cs) ps vs := by
  obtain ⟨b1, b2, b3, b4, b5, b6, b7⟩ := B
  have e : b + cs.length = aN h := b1.symm
  refine ⟨by show aN h + 1 = _; rw [b1, List.length_cons]; omega, fun j hj => ?_, fun p hp => ?_, fun a ha => ?_, fun j hj hv => ?_, fun j hj => ?_, fun v hv i i1 i2 => ?_⟩
  · rw [List.length_cons] at hj
    by_cases c : j = cs.length
    · subst c
      rw [lk_new, e]
      exact ⟨up_s _ _ _, up_s _ _ _⟩
    · rw [lk_old (by omega)]
      have := b2 j (by omega)
      exact ⟨(up_n (by omega)).trans this.1, (up_n (by omega)).trans this.2⟩
  · have := hps p hp
    exact (congrFun (up_n (by omega)) _).trans (b3 p hp)
  · have := b4 a ha
    exact ⟨(up_n (by omega)).trans this.1, (up_n (by omega)).trans this.2.1, (up_n (by omega)).trans this.2.2.1, (up_n (by omega)).trans this.2.2.2.1, (up_n (by omega)).trans this.2.2.2.2⟩
  · rw [List.length_cons] at hj
    by_cases c : j = cs.length
    · subst c
      rw [e]
      exact up_s _ _ _
    · exact (up_n (by omega)).trans (b5 j (by omega) hv)
  · rw [List.length_cons] at hj
    by_cases c : j = cs.length
    · subst c
      rw [e]
      exact up_s _ _ _
    · exact (up_n (by omega)).trans (b6 j (by omega))
  · have q : aI (hNew h kd len) (b + v.1) = aI h (b + v.1) := up_n (by have := hvs v hv; omega)
    unfold rd
    rw [q]
    exact b7 v hv i i1 i2
theorem Bk.st (B : Bk h0 h b cs ps vs) (hf : ∀ p, p ∈ ps → p.1 ≠ (o, f)) : Bk h0 (hP h (b + o) f (b + t)) b cs (((o, f), t) :: ps) vs := by
  obtain ⟨b1, b2, b3, b4, b5, b6, b7⟩ := B
  refine ⟨b1, b2, fun p hp => ?_, fun a ha => ?_, b5, b6, b7⟩
  · rcases List.mem_cons.mp hp with e | e
    · rw [e]
      show aP (hP h (b + o) f (b + t)) (b + o) f = _
      rw [aP_hP, if_pos rfl]
    · have hn := hf p e
      by_cases c : p.1.1 = o
      · rw [c, aP_hP, if_neg (fun q => hn (by rw [← c, ← q]))]
        have := b3 p e
        rw [c] at this
        exact this
      · exact (congrFun (up_n (by omega)) _).trans (b3 p e)
  · have := b4 a ha
    exact ⟨this.1, this.2.1, this.2.2.1, this.2.2.2.1, (up_n (by omega)).trans this.2.2.2.2⟩
theorem Bk.val {n : Int} {g : Int → Int} (B : Bk h0 h b cs ps vs) (F : Fr [b + o] [] [] h h') (ho : o < cs.length) (hv : ∀ v, v ∈ vs → v.1 ≠ o) (hg : ∀ i, 0 ≤ i → i < n → rd h' (b + o) i = g i) : Bk h0 h' b cs ps ((o, n, g) :: vs) := by
  obtain ⟨b1, b2, b3, b4, b5, b6, b7⟩ := B
  have eP := F.aPe
  refine ⟨by rw [F.1]; exact b1, fun j hj => by rw [F.2.2.1, F.2.2.2.1]; exact b2 j hj, fun p hp => by rw [eP]; exact b3 p hp, fun a ha => ?_, fun j hj hn => ?_, fun j hj => by rw [F.2.2.2.2.2.1 _ List.not_mem_nil]; exact b6 j hj, fun v hv' i i1 i2 => ?_⟩
  · have := b4 a ha
    exact ⟨by rw [F.2.2.1]; exact this.1, by rw [F.2.2.2.1]; exact this.2.1, by rw [F.2.2.2.2.1 a (by simp; omega)]; exact this.2.2.1, by rw [F.2.2.2.2.2.1 a List.not_mem_nil]; exact this.2.2.2.1, by rw [eP]; exact this.2.2.2.2⟩
  · rw [List.map_cons, List.mem_cons, not_or] at hn
    have hne : j ≠ o := hn.1
    rw [F.2.2.2.2.1 _ (by simp; omega)]
    exact b5 j hj hn.2
  · rcases List.mem_cons.mp hv' with e | e
    · subst e; exact hg i i1 i2
    · have := hv v e
      rw [F.row (by simp; omega)]
      exact b7 v e i i1 i2
/-- an array made and kept in a field -/
theorem Bk.al (B : Bk h0 h b cs ps vs) (ho : o < cs.length) (hk : (lk cs o).1 = ok) (hps : ∀ p, p ∈ ps → p.1.1 < cs.length) (hvs : ∀ v, v ∈ vs → v.1 < cs.length) (hf : ∀ p, p ∈ ps → p.1 ≠ (o, f)) (hR : aN h < 601024 ∧ aS h + len ≤ 7293034)
    (k : ∀ h', Bk h0 h' b ((kd, len) :: cs) (((o, f), cs.length) :: ps) vs → aN h' = aN h + 1 → aS h' = aS h + len → REST h') : (aN h < 601024 ∧ aS h + len ≤ 7293034) ∧ ∀ (hv1 : AH) (rv2 : Nat), hv1 = hNew h kd len → rv2 = aN h → (ob hv1 (b + o) ok) ∧ ∀ hv3 : AH, hv3 = hP hv1 (b + o) f rv2 → REST hv3 := by
  refine ⟨hR, fun h1 r1 e1 e2 => ?_⟩
  have B1 : Bk h0 h1 b ((kd, len) :: cs) ps vs := e1 ▸ B.new hps hvs
  refine ⟨B1.oo (by rw [List.length_cons]; omega) (by rw [lk_old ho]; exact hk), fun h3 e3 => ?_⟩
  rw [e2, B.1] at e3
  exact k h3 (e3 ▸ B1.st hf) (by rw [e3, e1]; rfl) (by rw [e3, e1]; rfl)
/-- an object made -/
theorem Bk.mk (B : Bk h0 h b cs ps vs) (hps : ∀ p, p ∈ ps → p.1.1 < cs.length) (hvs : ∀ v, v ∈ vs → v.1 < cs.length) (hR : aN h < 601024 ∧ aS h + len ≤ 7293034)
    (k : ∀ h', Bk h0 h' b ((kd, len) :: cs) ps vs → aN h' = aN h + 1 → aS h' = aS h + len → REST2 h' (b + cs.length)) : (aN h < 601024 ∧ aS h + len ≤ 7293034) ∧ ∀ (hv1 : AH) (rv2 : Nat), hv1 = hNew h kd len → rv2 = aN h → REST2 hv1 rv2 := by
  refine ⟨hR, fun h1 r1 e1 e2 => ?_⟩
  rw [e2, B.1]
  exact k h1 (e1 ▸ B.new hps hvs) (by rw [e1]; rfl) (by rw [e1]; rfl)
/-- a pointer kept in a field -/
theorem Bk.pt (B : Bk h0 h b cs ps vs) (ho : o < cs.length) (hk : (lk cs o).1 = ok) (hf : ∀ p, p ∈ ps → p.1 ≠ (o, f)) (k : ∀ h', Bk h0 h' b cs (((o, f), t) :: ps) vs → aN h' = aN h → aS h' = aS h → REST h') : (ob h (b + o) ok) ∧ ∀ hv3 : AH, hv3 = hP h (b + o) f (b + t) → REST hv3 :=
  ⟨B.oo ho hk, fun h3 e3 => k h3 (e3 ▸ B.st hf) (by rw [e3]; rfl) (by rw [e3]; rfl)⟩
end BLOCK
