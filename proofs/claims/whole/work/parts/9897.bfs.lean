/-! TOWNS one by one, as each is gone on from: how many, each one, where it came from, by which ACT -/
abbrev BS : Type := Int × (Int → Int) × (Int → Int) × (Int → Int)
def seenB (S : BS) (v : Int) : Prop := ∃ j, 0 ≤ j ∧ j < S.1 ∧ S.2.1 j = v
noncomputable def bAct (nx : Int → Int → Int) (i a : Int) (S : BS) : BS := iteP (0 ≤ nx (S.2.1 i) a ∧ ¬ seenB S (nx (S.2.1 i) a)) (S.1 + 1, updT S.2.1 S.1 (nx (S.2.1 i) a), updT S.2.2.1 S.1 i, updT S.2.2.2 S.1 a) S
noncomputable def bHead (nx : Int → Int → Int) (lo : Int) (cnt : Nat) (i : Int) (S : BS) : BS := foldI (bAct nx i) cnt lo S
noncomputable def bRun (nx : Int → Int → Int) (lo : Int) (cnt : Nat) (stop : Int → BS → Prop) : Nat → Int → BS → BS
  | 0, _, S => S
  | d + 1, i, S => iteP (i < S.1 ∧ ¬ stop i S) (bRun nx lo cnt stop d (i + 1) (bHead nx lo cnt i S)) S
def bGo (v : Int) : BS := (1, fun _ => v, fun _ => 0, fun _ => 0)
/-- no more than there are places -/
theorem php : ∀ (M t : Nat) (f : Nat → Nat), (∀ i, i < t → f i < M) → (∀ i j, i < t → j < t → f i = f j → i = j) → t ≤ M := by
  intro M
  induction M with
  | zero =>
    intro t f h1 _
    cases t with
    | zero => exact Nat.le_refl _
    | succ t => exact absurd (h1 0 (by omega)) (by omega)
  | succ M ih =>
    intro t f h1 h2
    by_cases c : ∃ i, i < t ∧ f i = M
    · obtain ⟨i0, c1, c2⟩ := c
      have := ih (t - 1) (fun i => if i < i0 then f i else f (i + 1)) (fun i hi => by
        show (if i < i0 then f i else f (i + 1)) < M
        by_cases ci : i < i0
        · rw [if_pos ci]
          have a := h1 i (by omega)
          have b : f i ≠ M := fun e => by have := h2 i i0 (by omega) c1 (e.trans c2.symm); omega
          omega
        · rw [if_neg ci]
          have a := h1 (i + 1) (by omega)
          have b : f (i + 1) ≠ M := fun e => by have := h2 (i + 1) i0 (by omega) c1 (e.trans c2.symm); omega
          omega) (fun i j hi hj e => by
        have e : (if i < i0 then f i else f (i + 1)) = (if j < i0 then f j else f (j + 1)) := e
        by_cases ci : i < i0
        · by_cases cj : j < i0
          · rw [if_pos ci, if_pos cj] at e; exact h2 i j (by omega) (by omega) e
          · rw [if_pos ci, if_neg cj] at e; have := h2 i (j + 1) (by omega) (by omega) e; omega
        · by_cases cj : j < i0
          · rw [if_neg ci, if_pos cj] at e; have := h2 (i + 1) j (by omega) (by omega) e; omega
          · rw [if_neg ci, if_neg cj] at e; have := h2 (i + 1) (j + 1) (by omega) (by omega) e; omega)
      omega
    · have := ih t f (fun i hi => by
        have a := h1 i hi
        have b : f i ≠ M := fun e => c ⟨i, hi, e⟩
        omega) h2
      omega
section BFS
variable {nx : Int → Int → Int} {V : Int → Prop} {stop : Int → BS → Prop} {a b c d i j k v w lo hi M t : Int} {cnt : Nat} {S S' : BS} {F B Q : Int → Int}
/-- what holds of them -/
def BI (V : Int → Prop) (lo hi : Int) (S : BS) : Prop := 1 ≤ S.1 ∧ (∀ j, 0 ≤ j → j < S.1 → V (S.2.1 j)) ∧ (∀ i j, 0 ≤ i → i < S.1 → 0 ≤ j → j < S.1 → S.2.1 i = S.2.1 j → i = j) ∧ (∀ j, 0 < j → j < S.1 → 0 ≤ S.2.2.1 j ∧ S.2.2.1 j < j) ∧ ∀ j, 0 < j → j < S.1 → lo ≤ S.2.2.2 j ∧ S.2.2.2 j < hi
theorem BI.le (I : BI V lo hi S) (hV : ∀ v, V v → 0 ≤ v ∧ v < M) : S.1 ≤ M := by
  obtain ⟨t1, vv, inj, -⟩ := I
  have := php M.toNat S.1.toNat (fun i => (S.2.1 i).toNat) (fun i hi => by
    have := hV _ (vv i (by omega) (by omega))
    show (S.2.1 i).toNat < M.toNat
    omega) (fun i j hi hj e => by
    have a := hV _ (vv i (by omega) (by omega))
    have b := hV _ (vv j (by omega) (by omega))
    have e : (S.2.1 i).toNat = (S.2.1 j).toNat := e
    have := inj i j (by omega) (by omega) (by omega) (by omega) (by omega)
    omega)
  have a := hV _ (vv 0 (by omega) (by omega))
  omega
theorem BI.go (hv : V v) : BI V lo hi (bGo v) := ⟨Int.le_refl _, fun _ _ _ => hv, fun i j i0 i1 j0 j1 _ => by
  have i1 : i < 1 := i1
  have j1 : j < 1 := j1
  omega, fun j j0 j1 => by
  have j1 : j < 1 := j1
  omega, fun j j0 j1 => by
  have j1 : j < 1 := j1
  omega⟩
/-- the first ones stay -/
def bExt (S S' : BS) : Prop := S.1 ≤ S'.1 ∧ ∀ j, j < S.1 → S'.2.1 j = S.2.1 j ∧ S'.2.2.1 j = S.2.2.1 j ∧ S'.2.2.2 j = S.2.2.2 j
theorem bExt.refl (S : BS) : bExt S S := ⟨Int.le_refl _, fun _ _ => ⟨rfl, rfl, rfl⟩⟩
theorem bExt.trans {S'' : BS} (u : bExt S S') (v : bExt S' S'') : bExt S S'' := ⟨Int.le_trans u.1 v.1, fun j hj => by
  have a := u.2 j hj
  have b := v.2 j (by have := u.1; omega)
  exact ⟨b.1.trans a.1, b.2.1.trans a.2.1, b.2.2.trans a.2.2⟩⟩
theorem bAct_ext : bExt S (bAct nx i a S) := by
  unfold bAct
  by_cases c : 0 ≤ nx (S.2.1 i) a ∧ ¬ seenB S (nx (S.2.1 i) a)
  · rw [ite_t c]
    refine ⟨?_, fun j hj => ⟨updT_n (by omega), updT_n (by omega), updT_n (by omega)⟩⟩
    show S.1 ≤ S.1 + 1
    omega
  · rw [ite_f c]; exact bExt.refl S
theorem bAct_I (I : BI V lo hi S) (hi0 : 0 ≤ i) (hi1 : i < S.1) (ha : lo ≤ a ∧ a < hi) (hn : 0 ≤ nx (S.2.1 i) a → V (nx (S.2.1 i) a)) : BI V lo hi (bAct nx i a S) := by
  unfold bAct
  by_cases c : 0 ≤ nx (S.2.1 i) a ∧ ¬ seenB S (nx (S.2.1 i) a)
  · rw [ite_t c]
    have hv := hn c.1
    generalize nx (S.2.1 i) a = v at c hv
    obtain ⟨t1, vv, inj, ff, bb⟩ := I
    obtain ⟨t, Q, F, B⟩ := S
    have t1 : 1 ≤ t := t1
    have vv : ∀ j, 0 ≤ j → j < t → V (Q j) := vv
    have hi1 : i < t := hi1
    have cs : ¬ ∃ j, 0 ≤ j ∧ j < t ∧ Q j = v := c.2
    refine ⟨by show 1 ≤ t + 1; omega, fun j j0 j1 => ?_, fun k j k0 k1 j0 j1 e => ?_, fun j j0 j1 => ?_, fun j j0 j1 => ?_⟩
    · have j1 : j < t + 1 := j1
      show V (updT Q t v j)
      by_cases z : j = t
      · rw [z, updT_s]; exact hv
      · rw [updT_n z]; exact vv j j0 (by omega)
    · have j1 : j < t + 1 := j1
      have k1 : k < t + 1 := k1
      have e : updT Q t v k = updT Q t v j := e
      by_cases z : j = t
      · by_cases y : k = t
        · omega
        · rw [z, updT_s, updT_n y] at e
          exact absurd ⟨k, k0, by omega, e⟩ cs
      · by_cases y : k = t
        · rw [y, updT_s, updT_n z] at e
          exact absurd ⟨j, j0, by omega, e.symm⟩ cs
        · rw [updT_n y, updT_n z] at e
          exact inj k j k0 (by show k < t; omega) j0 (by show j < t; omega) e
    · have j1 : j < t + 1 := j1
      show 0 ≤ updT F t i j ∧ updT F t i j < j
      by_cases z : j = t
      · rw [z, updT_s]; omega
      · rw [updT_n z]; exact ff j j0 (by show j < t; omega)
    · have j1 : j < t + 1 := j1
      show lo ≤ updT B t a j ∧ updT B t a j < hi
      by_cases z : j = t
      · rw [z, updT_s]; exact ha
      · rw [updT_n z]; exact bb j j0 (by show j < t; omega)
  · rw [ite_f c]; exact I
theorem bHead_s : bHead nx lo (cnt + 1) i S = bAct nx i (lo + cnt) (bHead nx lo cnt i S) := foldI_snoc _ _ _ _
theorem bHead_ext : ∀ cnt : Nat, bExt S (bHead nx lo cnt i S) := by
  intro cnt
  induction cnt with
  | zero => exact bExt.refl S
  | succ cnt ih => rw [bHead_s]; exact ih.trans bAct_ext
theorem bHead_I (I : BI V lo hi S) (hi0 : 0 ≤ i) (hi1 : i < S.1) (hn : ∀ v a, V v → lo ≤ a → a < hi → 0 ≤ nx v a → V (nx v a)) : ∀ cnt : Nat, lo + cnt ≤ hi → BI V lo hi (bHead nx lo cnt i S) := by
  intro cnt
  induction cnt with
  | zero => intro _; exact I
  | succ cnt ih =>
    intro hc
    have J := ih (by omega)
    have e := bHead_ext (nx := nx) (lo := lo) (i := i) (S := S) cnt
    rw [bHead_s]
    have il : i < (bHead nx lo cnt i S).1 := by have := e.1; omega
    exact bAct_I J hi0 il (by omega) (hn _ _ (J.2.1 i hi0 il) (by omega) (by omega))
theorem bRun_ext : ∀ (dd : Nat) (i : Int) (S : BS), bExt S (bRun nx lo cnt stop dd i S) := by
  intro dd
  induction dd with
  | zero => intro i S; exact bExt.refl S
  | succ dd ih =>
    intro i S
    rw [bRun]
    by_cases c : i < S.1 ∧ ¬ stop i S
    · rw [ite_t c]; exact (bHead_ext cnt).trans (ih _ _)
    · rw [ite_f c]; exact bExt.refl S
theorem seen_ext (e : bExt S S') (u : seenB S v) : seenB S' v := by
  obtain ⟨j, j0, j1, j2⟩ := u
  exact ⟨j, j0, by have := e.1; omega, by rw [(e.2 j j1).1]; exact j2⟩
/-- one that goes on when the goal is come to finds the same -/
theorem bRun_stop {goal : Int} : ∀ (dd : Nat) (i : Int) (S : BS), (seenB (bRun nx lo cnt (fun _ S => seenB S goal) dd i S) goal → bExt (bRun nx lo cnt (fun _ S => seenB S goal) dd i S) (bRun nx lo cnt (fun _ _ => False) dd i S)) ∧ (¬ seenB (bRun nx lo cnt (fun _ S => seenB S goal) dd i S) goal → bRun nx lo cnt (fun _ _ => False) dd i S = bRun nx lo cnt (fun _ S => seenB S goal) dd i S) := by
  intro dd
  induction dd with
  | zero => intro i S; exact ⟨fun _ => bExt.refl S, fun _ => rfl⟩
  | succ dd ih =>
    intro i S
    rw [bRun, bRun]
    by_cases c1 : i < S.1
    · rw [ite_t (c := i < S.1 ∧ ¬ False) ⟨c1, id⟩]
      by_cases c2 : seenB S goal
      · rw [ite_f (fun u => u.2 c2)]
        exact ⟨fun _ => (bHead_ext cnt).trans (bRun_ext _ _ _), fun u => absurd c2 u⟩
      · rw [ite_t ⟨c1, c2⟩]; exact ih _ _
    · rw [ite_f (fun u => c1 u.1), ite_f (fun u => c1 u.1)]
      exact ⟨fun _ => bExt.refl S, fun _ => rfl⟩
/-- how many ACTS lead to a place -/
noncomputable def depF (F : Int → Int) : Nat → Int → Int
  | 0, _ => 0
  | n + 1, j => iteP (j ≤ 0) 0 (depF F n (F j) + 1)
noncomputable def dpt (F : Int → Int) (j : Int) : Int := depF F j.toNat j
def FGd (F : Int → Int) (t : Int) : Prop := ∀ j, 0 < j → j < t → 0 ≤ F j ∧ F j < j
theorem depF_st (G : FGd F t) : ∀ (p : Nat) (x : Int), x < t → x ≤ p → depF F (p + 1) x = depF F p x := by
  intro p
  induction p with
  | zero =>
    intro x _ hx
    show iteP (x ≤ 0) 0 _ = 0
    exact ite_t (by omega)
  | succ p ihp =>
    intro x hx hp
    show iteP (x ≤ 0) 0 (depF F (p + 1) (F x) + 1) = iteP (x ≤ 0) 0 (depF F p (F x) + 1)
    by_cases w : x ≤ 0
    · rw [ite_t w, ite_t w]
    · have gx := G x (by omega) hx
      rw [ite_f w, ite_f w, ihp (F x) (by omega) (by omega)]
theorem depF_any (G : FGd F t) (n : Nat) (j : Int) (h1 : j < t) (h2 : j ≤ n) : depF F n j = depF F j.toNat j := by
  have up : ∀ q : Nat, depF F (j.toNat + q) j = depF F j.toNat j := by
    intro q
    induction q with
    | zero => rfl
    | succ q ih => rw [← Nat.add_assoc, depF_st G _ _ h1 (by omega), ih]
  have := up (n - j.toNat)
  rw [show j.toNat + (n - j.toNat) = n by omega] at this
  exact this
theorem dpt_0 (h : j ≤ 0) : dpt F j = 0 := by
  unfold dpt
  rw [show j.toNat = 0 by omega]
  rfl
theorem dpt_s (G : FGd F t) (h0 : 0 < j) (h1 : j < t) : dpt F j = dpt F (F j) + 1 := by
  have g := G j h0 h1
  unfold dpt
  have e : j.toNat = (j.toNat - 1) + 1 := by omega
  rw [e, depF, ite_f (by omega), depF_any G (j.toNat - 1) (F j) (by omega) (by omega)]
theorem dpt_bd (G : FGd F t) : ∀ (n : Nat) (j : Int), j ≤ n → 0 ≤ j → j < t → 0 ≤ dpt F j ∧ dpt F j ≤ j := by
  intro n
  induction n with
  | zero => intro j h0 h1 _; rw [dpt_0 (by omega)]; omega
  | succ n ih =>
    intro j h0 h1 h2
    by_cases c : j = 0
    · rw [dpt_0 (by omega)]; omega
    · have g := G j (by omega) h2
      have := ih (F j) (by omega) g.1 (by omega)
      rw [dpt_s G (by omega) h2]; omega
theorem dpt_cg {F' : Int → Int} (G : FGd F t) (e : ∀ j, j < t → F' j = F j) : ∀ (n : Nat) (j : Int), j ≤ n → j < t → dpt F' j = dpt F j := by
  have G' : FGd F' t := fun j j0 j1 => by rw [e j j1]; exact G j j0 j1
  intro n
  induction n with
  | zero => intro j h0 h1; rw [dpt_0 (by omega), dpt_0 (by omega)]
  | succ n ih =>
    intro j h0 h1
    by_cases c : j ≤ 0
    · rw [dpt_0 c, dpt_0 c]
    · have g := G j (by omega) h1
      rw [dpt_s G (by omega) h1, dpt_s G' (by omega) h1, e j h1, ih (F j) (by omega) (by omega)]
/-- the place k ACTS ahead -/
def anc (F : Int → Int) : Nat → Int → Int
  | 0, j => j
  | k + 1, j => anc F k (F j)
theorem anc_s (F : Int → Int) : ∀ (k : Nat) (j : Int), anc F (k + 1) j = F (anc F k j) := by
  intro k
  induction k with
  | zero => intro j; rfl
  | succ k ih => intro j; rw [anc, ih]; rfl
theorem anc_d (G : FGd F t) : ∀ (k : Nat) (j : Int), 0 ≤ j → j < t → (k : Int) ≤ dpt F j → (0 ≤ anc F k j ∧ anc F k j < t) ∧ dpt F (anc F k j) = dpt F j - k := by
  intro k
  induction k with
  | zero => intro j h0 h1 _; exact ⟨⟨h0, h1⟩, by show dpt F j = _; omega⟩
  | succ k ih =>
    intro j h0 h1 h2
    by_cases c : j = 0
    · rw [dpt_0 (by omega)] at h2; omega
    · have g := G j (by omega) h1
      have s := dpt_s G (by omega) h1
      have := ih (F j) g.1 (by omega) (by omega)
      rw [anc]
      exact ⟨this.1, by rw [this.2, s]; omega⟩
theorem anc_cg {F' : Int → Int} (G : FGd F t) (e : ∀ j, j < t → F' j = F j) : ∀ (k : Nat) (j : Int), 0 ≤ j → j < t → (k : Int) ≤ dpt F j → anc F' k j = anc F k j := by
  intro k
  induction k with
  | zero => intro j _ _ _; rfl
  | succ k ih =>
    intro j h0 h1 h2
    by_cases c : j = 0
    · rw [dpt_0 (by omega)] at h2; omega
    · have g := G j (by omega) h1
      have s := dpt_s G (by omega) h1
      rw [anc, anc, e j h1]
      exact ih (F j) g.1 (by omega) (by omega)
theorem BI.fg (I : BI V lo hi S) : FGd S.2.2.1 S.1 := fun j j0 j1 => I.2.2.2.1 j j0 j1
end BFS
/-- ACTS as found() tells them -/
def dcd (a : Int) : Int := a / 5 * 10 + a % 5
