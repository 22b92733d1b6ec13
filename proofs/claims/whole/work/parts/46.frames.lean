/-! what a piece of work leaves as it was -/
def Fr (wi wj wq : List Nat) (h h' : AH) : Prop := aN h' = aN h ∧ aS h' = aS h ∧ aK h' = aK h ∧ aL h' = aL h ∧ (∀ a, a ∉ wi → aI h' a = aI h a) ∧ (∀ a, a ∉ wj → aJ h' a = aJ h a) ∧ (∀ a, a ∉ wq → aP h' a = aP h a)
theorem Fr.refl (h : AH) : Fr [] [] [] h h := ⟨rfl, rfl, rfl, rfl, fun _ _ => rfl, fun _ _ => rfl, fun _ _ => rfl⟩
theorem Fr.mono {wi wj wq wi' wj' wq' : List Nat} {h h' : AH} (f : Fr wi wj wq h h') (s1 : ∀ a, a ∈ wi → a ∈ wi') (s2 : ∀ a, a ∈ wj → a ∈ wj') (s3 : ∀ a, a ∈ wq → a ∈ wq') : Fr wi' wj' wq' h h' :=
  ⟨f.1, f.2.1, f.2.2.1, f.2.2.2.1, fun a q => f.2.2.2.2.1 a fun p => q (s1 a p), fun a q => f.2.2.2.2.2.1 a fun p => q (s2 a p), fun a q => f.2.2.2.2.2.2 a fun p => q (s3 a p)⟩
theorem Fr.trans {wi wj wq : List Nat} {h h1 h2 : AH} (f : Fr wi wj wq h h1) (g : Fr wi wj wq h1 h2) : Fr wi wj wq h h2 :=
  ⟨g.1.trans f.1, g.2.1.trans f.2.1, g.2.2.1.trans f.2.2.1, g.2.2.2.1.trans f.2.2.2.1, fun a q => (g.2.2.2.2.1 a q).trans (f.2.2.2.2.1 a q), fun a q => (g.2.2.2.2.2.1 a q).trans (f.2.2.2.2.2.1 a q), fun a q => (g.2.2.2.2.2.2 a q).trans (f.2.2.2.2.2.2 a q)⟩
theorem Fr.row {wi wj wq : List Nat} {h h' : AH} (f : Fr wi wj wq h h') {a : Nat} (ha : a ∉ wi) : rd h' a = rd h a := by
  funext i
  unfold rd
  rw [f.2.2.2.2.1 a ha]
theorem Fr.aPe {wi wj : List Nat} {h h' : AH} (f : Fr wi wj [] h h') : aP h' = aP h := funext fun a => f.2.2.2.2.2.2 a (by simp)
theorem MSh.fr {wi wj : List Nat} {h h' : AH} (M : MSh h) (f : Fr wi wj [] h h') : MSh h' := M.same f.1 f.2.2.1 f.2.2.2.1 f.aPe
def updT (t : Int → Int) (i v : Int) : Int → Int := fun j => if j = i then v else t j
theorem updT_s (t : Int → Int) (i v : Int) : updT t i v i = v := if_pos rfl
theorem updT_n {t : Int → Int} {i v j : Int} (h : ¬ j = i) : updT t i v j = t j := if_neg h
theorem rd_hI {h : AH} {a : Nat} {i v : Int} (hi : 0 ≤ i) (h1 : -2147483648 ≤ v) (h2 : v < 2147483648) : rd (hI h a i.toNat (iI v)) a = updT (rd h a) i v := by
  funext j
  unfold updT rd
  show (if 0 ≤ j then (va_up (aI h) a (upd (aI h a) i.toNat (iI v)) a j.toNat).toInt else 0) = _
  rw [up_s]
  unfold upd
  by_cases hj : 0 ≤ j
  · rw [if_pos hj, if_pos hj]
    by_cases e : j = i
    · subst e
      rw [if_pos rfl, if_pos rfl, iI_toInt h1 h2]
    · rw [if_neg (by omega), if_neg e]
  · rw [if_neg hj, if_neg hj, if_neg (by omega)]
theorem fr_hI {h : AH} {a k : Nat} {v : Int32} : Fr [a] [] [] h (hI h a k v) := ⟨rfl, rfl, rfl, rfl, fun b hb => up_n (by simpa using hb), fun _ _ => rfl, fun _ _ => rfl⟩
theorem wI {h h2 : AH} {a : Nat} {i v : Int} (hi : 0 ≤ i) (h1 : -2147483648 ≤ v) (h3 : v < 2147483648) (e : h2 = hI h a i.toNat (iI v)) : Fr [a] [] [] h h2 ∧ rd h2 a = updT (rd h a) i v := by
  subst e
  exact ⟨fr_hI, rd_hI hi h1 h3⟩
theorem fqI {e : Int32} {P : Int32 → Prop} : (∀ v : Int32, v = e → P v) ↔ P e := ⟨fun q => q e rfl, fun q _ hv => hv ▸ q⟩
theorem fqJ {e : Int64} {P : Int64 → Prop} : (∀ v : Int64, v = e → P v) ↔ P e := ⟨fun q => q e rfl, fun q _ hv => hv ▸ q⟩
/-- loops, one way, with a state -/
theorem lf_for {β : Type} {W : Nat → β → Int → Prop} {lo hi : Int} (I : Int → β → Prop) (hle : lo ≤ hi)
    (step : ∀ n b i, lo ≤ i → i < hi → I i b → (∀ b', I (i + 1) b' → W n b' (i + 1)) → W (n + 1) b i) (fin : ∀ n b, I hi b → W (n + 1) b hi) (b : β) (hb : I lo b) : ∃ n, W n b lo := by
  have key : ∀ (d : Nat) (i : Int) (b : β), lo ≤ i → i + d = hi → I i b → W (d + 1) b i := by
    intro d
    induction d with
    | zero =>
      intro i b h1 h2 h3
      have e : i = hi := by omega
      subst e
      exact fin 0 b h3
    | succ d ih =>
      intro i b h1 h2 h3
      exact step _ b i h1 (by omega) h3 fun b' hb' => ih (i + 1) b' (by omega) (by omega) hb'
  exact ⟨_, key (hi - lo).toNat lo b (Int.le_refl _) (by omega) hb⟩
theorem lf_find {W : Nat → Int → Prop} {lo hi : Int} (P : Int → Prop) (hle : lo ≤ hi) (stepT : ∀ n i, lo ≤ i → i < hi → P i → (∀ j, lo ≤ j → j < i → ¬ P j) → W (n + 1) i)
    (stepF : ∀ n i, lo ≤ i → i < hi → ¬ P i → W n (i + 1) → W (n + 1) i) (fin : ∀ n, (∀ j, lo ≤ j → j < hi → ¬ P j) → W (n + 1) hi) : ∃ n, W n lo := by
  have key : ∀ (d : Nat) (i : Int), lo ≤ i → i + d = hi → (∀ j, lo ≤ j → j < i → ¬ P j) → W (d + 1) i := by
    intro d
    induction d with
    | zero =>
      intro i h1 h2 h3
      have e : i = hi := by omega
      subst e
      exact fin 0 h3
    | succ d ih =>
      intro i h1 h2 h3
      by_cases hp : P i
      · exact stepT _ i h1 (by omega) hp h3
      · exact stepF _ i h1 (by omega) hp (ih (i + 1) (by omega) (by omega) fun j j1 j2 => by
          by_cases c : j = i
          · subst c; exact hp
          · exact h3 j j1 (by omega))
  exact ⟨_, key (hi - lo).toNat lo (Int.le_refl _) (by omega) fun j j1 j2 => by omega⟩
theorem fstI_at {P : Int → Prop} : ∀ (d : Nat) (lo i : Int), lo ≤ i → i < lo + d → P i → (∀ j, lo ≤ j → j < i → ¬ P j) → fstI P d lo = i := by
  intro d
  induction d with
  | zero => intro lo i h1 h2; omega
  | succ d ih =>
    intro lo i h1 h2 h3 h4
    rw [fstI]
    by_cases e : lo = i
    · subst e
      exact ite_t h3
    · rw [ite_f (h4 lo (Int.le_refl _) (by omega))]
      exact ih (lo + 1) i (by omega) (by omega) h3 fun j j1 j2 => h4 j (by omega) j2
theorem fstI_no {P : Int → Prop} : ∀ (d : Nat) (lo : Int), (∀ j, lo ≤ j → j < lo + d → ¬ P j) → fstI P d lo = -1 := by
  intro d
  induction d with
  | zero => intro lo _; rfl
  | succ d ih =>
    intro lo h
    rw [fstI, ite_f (h lo (Int.le_refl _) (by omega))]
    exact ih (lo + 1) fun j j1 j2 => h j (by omega) (by omega)
theorem fstI_spec {P : Int → Prop} : ∀ (d : Nat) (lo : Int), 0 ≤ lo → (fstI P d lo = -1 ∧ ∀ j, lo ≤ j → j < lo + d → ¬ P j) ∨ (lo ≤ fstI P d lo ∧ fstI P d lo < lo + d ∧ P (fstI P d lo) ∧ ∀ j, lo ≤ j → j < fstI P d lo → ¬ P j) := by
  intro d
  induction d with
  | zero => intro lo h0; exact Or.inl ⟨rfl, fun j j1 j2 => by omega⟩
  | succ d ih =>
    intro lo h0
    rw [fstI]
    by_cases hp : P lo
    · rw [ite_t hp]
      exact Or.inr ⟨Int.le_refl _, by omega, hp, fun j j1 j2 => by omega⟩
    · rw [ite_f hp]
      rcases ih (lo + 1) (by omega) with ⟨e, q⟩ | ⟨q1, q2, q3, q4⟩
      · refine Or.inl ⟨e, fun j j1 j2 => ?_⟩
        by_cases c : j = lo
        · subst c; exact hp
        · exact q j (by omega) (by omega)
      · refine Or.inr ⟨by omega, by omega, q3, fun j j1 j2 => ?_⟩
        by_cases c : j = lo
        · subst c; exact hp
        · exact q4 j (by omega) j2
