/-! the first of the best, and rings counted -/
def bstI (m : Int → Int) (Q : Int → Int) (i best p : Int) : Prop := (i = 0 ∧ best = -1 ∧ p = 0) ∨ ((0 ≤ p ∧ p < i) ∧ best = m (Q p) ∧ (∀ j, 0 ≤ j → j < i → m (Q j) ≤ best) ∧ ∀ j, 0 ≤ j → j < p → m (Q j) < best)
def finB (m : Int → Int) (S : BS) (best p : Int) : Prop := (0 ≤ p ∧ p < S.1) ∧ best = m (S.2.1 p) ∧ (∀ j, 0 ≤ j → j < S.1 → m (S.2.1 j) ≤ best) ∧ ∀ j, 0 ≤ j → j < p → m (S.2.1 j) < best
def LVI (S : BS) (i dn ls k : Int) : Prop := (0 ≤ i ∧ i ≤ ls ∧ ls ≤ S.1) ∧ (∀ j, i ≤ j → j < ls → dpt S.2.2.1 j = dn) ∧ (∀ j, ls ≤ j → j < S.1 → dpt S.2.2.1 j = dn + 1) ∧ (0 ≤ dn ∧ dn ≤ k) ∧ (dn = k → ls = S.1)
section BST
variable {nx : Int → Int → Int} {V : Int → Prop} {stop : Int → BS → Prop} {a b c d i j k v w lo hi M t dn ls best p best' p' : Int} {cnt : Nat} {S S' : BS} {F B Q Q' m : Int → Int}
theorem bstI.step (J : bstI m Q i best p) (i0 : 0 ≤ i) (eq : ∀ j, j ≤ i → Q' j = Q j) (mn : ∀ v, 0 ≤ m v) : (m (Q i) ≤ best → bstI m Q' (i + 1) best p) ∧ (¬ m (Q i) ≤ best → bstI m Q' (i + 1) (m (Q i)) i) := by
  refine ⟨fun le => ?_, fun gt => ?_⟩
  · rcases J with ⟨j1, j2, j3⟩ | ⟨j1, j2, j3, j4⟩
    · have := mn (Q i); omega
    · refine Or.inr ⟨by omega, by rw [eq p (by omega)]; exact j2, fun j h0 h1 => ?_, fun j h0 h1 => by rw [eq j (by omega)]; exact j4 j h0 h1⟩
      rw [eq j (by omega)]
      by_cases c : j = i
      · rw [c]; exact le
      · exact j3 j h0 (by omega)
  · refine Or.inr ⟨by omega, by rw [eq i (by omega)], fun j h0 h1 => ?_, fun j h0 h1 => ?_⟩
    · rw [eq j (by omega)]
      by_cases c : j = i
      · rw [c]; omega
      · rcases J with ⟨j1, j2, j3⟩ | ⟨j1, j2, j3, j4⟩
        · omega
        · have := j3 j h0 (by omega); omega
    · rw [eq j (by omega)]
      rcases J with ⟨j1, j2, j3⟩ | ⟨j1, j2, j3, j4⟩
      · omega
      · have := j3 j h0 (by omega); omega
theorem finB.one (u : finB m S best p) (v : finB m S best' p') : best = best' ∧ p = p' := by
  obtain ⟨u1, u2, u3, u4⟩ := u
  obtain ⟨v1, v2, v3, v4⟩ := v
  have a := u3 p' v1.1 v1.2
  have b := v3 p u1.1 u1.2
  have e : best = best' := by omega
  refine ⟨e, ?_⟩
  by_cases c1 : p < p'
  · have := v4 p u1.1 c1; omega
  · by_cases c2 : p' < p
    · have := u4 p' v1.1 c2; omega
    · omega
theorem bRun_stay (hs : ∀ j, i ≤ j → j < S.1 → stop j S) : ∀ dd : Nat, bRun nx lo cnt stop dd i S = S := by
  intro dd
  cases dd with
  | zero => rfl
  | succ dd =>
    rw [bRun, ite_f]
    exact fun u => u.2 (hs i (Int.le_refl _) u.1)
theorem bHead_F : ∀ (cnt : Nat) (j : Int), S.1 ≤ j → j < (bHead nx lo cnt i S).1 → (bHead nx lo cnt i S).2.2.1 j = i := by
  intro cnt
  induction cnt with
  | zero =>
    intro j h0 h1
    have h1 : j < S.1 := h1
    omega
  | succ cnt ih =>
    intro j h0 h1
    rw [bHead_s] at h1 ⊢
    unfold bAct at h1 ⊢
    by_cases c : 0 ≤ nx ((bHead nx lo cnt i S).2.1 i) (lo + cnt) ∧ ¬ seenB (bHead nx lo cnt i S) (nx ((bHead nx lo cnt i S).2.1 i) (lo + cnt))
    · rw [ite_t c] at h1 ⊢
      have h1 : j < (bHead nx lo cnt i S).1 + 1 := h1
      show updT (bHead nx lo cnt i S).2.2.1 (bHead nx lo cnt i S).1 i j = i
      by_cases e : j = (bHead nx lo cnt i S).1
      · rw [e, updT_s]
      · rw [updT_n e]; exact ih j h0 (by omega)
    · rw [ite_f c] at h1 ⊢
      exact ih j h0 h1
/-- one place on, the ring told anew where one ends -/
theorem LVI.turn (L : LVI S i dn ls k) (hi : i < S.1) : ∃ dn' ls', ((i = ls ∧ dn' = dn + 1 ∧ ls' = S.1) ∨ (i ≠ ls ∧ dn' = dn ∧ ls' = ls)) ∧ LVI S i dn' ls' k ∧ i < ls' := by
  obtain ⟨l1, l2, l3, l4, l5⟩ := L
  by_cases c : i = ls
  · have : dn ≠ k := fun q => by have := l5 q; omega
    exact ⟨dn + 1, S.1, Or.inl ⟨c, rfl, rfl⟩, ⟨by omega, fun j h0 h1 => l3 j (by omega) h1, fun j h0 h1 => by omega, by omega, fun _ => rfl⟩, hi⟩
  · exact ⟨dn, ls, Or.inr ⟨c, rfl, rfl⟩, ⟨l1, l2, l3, l4, l5⟩, by omega⟩
theorem LVI.stay (L : LVI S i dn ls k) (hi : i < ls) : LVI S (i + 1) dn ls k := by
  obtain ⟨l1, l2, l3, l4, l5⟩ := L
  exact ⟨by omega, fun j h0 h1 => l2 j (by omega) h1, l3, l4, l5⟩
theorem LVI.on {up : Int} (L : LVI S i dn ls k) (hi : i < ls) (hd : dn < k) (I : BI V lo up S) (I' : BI V lo up (bHead nx lo cnt i S)) : LVI (bHead nx lo cnt i S) (i + 1) dn ls k := by
  obtain ⟨l1, l2, l3, l4, l5⟩ := L
  have ex := bHead_ext (nx := nx) (lo := lo) (i := i) (S := S) cnt
  have cg : ∀ j, j < S.1 → dpt (bHead nx lo cnt i S).2.2.1 j = dpt S.2.2.1 j := fun j hj => dpt_cg I.fg (fun j hj => (ex.2 j hj).2.1) j.toNat j (by omega) hj
  have e1 := ex.1
  refine ⟨by omega, fun j h0 h1 => by rw [cg j (by omega)]; exact l2 j (by omega) h1, fun j h0 h1 => ?_, l4, fun q => by omega⟩
  by_cases c : j < S.1
  · rw [cg j c]; exact l3 j h0 c
  · rw [dpt_s I'.fg (by omega) h1, bHead_F cnt j (by omega) h1, cg i (by omega), l2 i (by omega) hi]
end BST
